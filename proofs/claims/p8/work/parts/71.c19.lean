theorem Lp_code (id : Nat) : ∀ t ∈ Lp id, t.1 ∈ [0, 5, 210, 211] := by
  intro t ht
  simp [Lp, Lc] at ht
  rcases ht with rfl | rfl | rfl | rfl <;> simp
section PKK
variable {D : va_G} {ca : Nat → ClassId} {X : jG} {tf : Nat → Option Nat} {id : Nat} {rk : Int} {Gp : Int → Prop} {H H1 : Heap}
theorem pok_fm {L : List Nat} (hp : pok D ca X tf id rk Gp H) (hf : kfm X L H H1) (hL : ∀ c ∈ L, c ∉ [0, 5, 210, 211]) : pok D ca X tf id rk Gp H1 := pok_keep hp (fun q hq => hf q (fun e => hL _ e (Lp_code _ _ hq)))
theorem pok_oq {a : Nat} {t : kTy} (hp : pok D ca X tf id rk Gp H) (hg : X.1 a = t) (ht : t.1 ∉ [0, 5, 210, 211]) (oq : ∀ q : Nat, q ≠ a → H1[q]? = H[q]?) : pok D ca X tf id rk Gp H1 := pok_keep hp (fun q hq => oq q (fun e => ht (by rw [← hg, ← e]; exact Lp_code _ _ hq)))
theorem pok_fk {id2 : Nat} (hp : pok D ca X tf id rk Gp H) (hf : kfk X (Lp id2) H H1) (hne : id ≠ id2) : pok D ca X tf id rk Gp H1 := pok_keep hp (fun q hq => hf q (nLp hne _ hq))
theorem pok_fc {id2 : Nat} (hp : pok D ca X tf id rk Gp H) (hf : kfk X (Lc id2) H H1) (hne : id ≠ id2) : pok D ca X tf id rk Gp H1 := pok_keep hp (fun q hq => hf q (fun e => nLp hne _ hq (List.mem_cons_of_mem _ e)))
end PKK
theorem PL_ne {rk : Nat → Int} {G : Nat → Int → Prop} {k tc : Int} (hdi : ∀ i j : Nat, (i : Int) < tc → (j : Int) < tc → rk i = rk j → i = j) (hk : 0 ≤ k ∧ k < tc) : ∀ m : Int, PL rk G k m → m / 2048 ≠ rk k.toNat := by
  rintro m ⟨j, h1, h2, h3⟩ e
  have := hdi j k.toNat (by omega) (by omega) (by omega)
  omega
theorem ch_all {P : Nat → (Int → Prop) → Prop} {k : Int} (h : ∀ j : Nat, (j : Int) < k → ∃ G : Int → Prop, P j G) : ∃ G : Nat → Int → Prop, ∀ j : Nat, (j : Int) < k → P j (G j) := by
  refine ⟨fun j => if hj : (j : Int) < k then Classical.choose (h j hj) else fun _ => True, fun j hj => ?_⟩
  show P j (if hj : (j : Int) < k then Classical.choose (h j hj) else fun _ => True)
  rw [dif_pos hj]
  exact Classical.choose_spec (h j hj)
theorem kcnt_di {f : Nat → Int32} {n : Int} {P : Int → Prop} (h : KS f n P) : ∀ i j : Nat, (i : Int) < n → (j : Int) < n → kcnt f (ge1 f (i : Int) % 16384) (Int.toNat n) = kcnt f (ge1 f (j : Int) % 16384) (Int.toNat n) → i = j := by
  intro i j h1 h2 h3
  by_cases e : i = j
  · exact e
  · exact absurd h3 (kcnt_ne h (by omega) h1 (by omega) h2 (by omega))
def PW (dC : Nat → ClassId) (dI : Nat → Nat → Nat) (ca : Nat → ClassId) (X : jG) (a0 : Nat) (H : Heap) : Prop := ∃ (pp_a0 : Int) (countedUncut_a0 : Int64) (counted_a0 : Int64) (left_a0 : Int) (told_a0 : Nat) (toldCount_a0 : Int) (grown_a0 : Nat) (keys_a0 : Nat) (keyCount_a0 : Int) (tongue_a0 : Nat) (lattice_a0 : Nat) (forms_tg : Nat) (rules_tg : Nat) (formCount_tg : Int) (ruleCount_tg : Int) (forbidden_tg : Nat) (kf : Nat → Int32) (tf : Nat → Option Nat) (rk : Nat → Int) (G : Nat → Int → Prop), (0 ≤ left_a0 ∧ left_a0 ≤ 1) ∧ (X.1 told_a0 = (226, 26, 8, pp_a0, 0)) ∧ (0 ≤ toldCount_a0 ∧ toldCount_a0 ≤ 8) ∧ (X.1 grown_a0 = (226, 26, 8, 1 - pp_a0, 0)) ∧ (X.1 keys_a0 = (228, 20, 8, -2147483648, 2147483647)) ∧ (0 ≤ keyCount_a0 ∧ keyCount_a0 ≤ 8) ∧ (X.1 tongue_a0 = (9, 30, 0, 0, 0)) ∧ (X.1 lattice_a0 = (3, 30, 0, 0, 0)) ∧ (0 ≤ pp_a0) ∧ (pp_a0 ≤ 1) ∧ (X.1 forms_tg = (212, 24, 40, 2, 0)) ∧ (X.1 rules_tg = (213, 29, 24, 7, 0)) ∧ (0 ≤ formCount_tg ∧ formCount_tg ≤ 40) ∧ (0 ≤ ruleCount_tg ∧ ruleCount_tg ≤ 24) ∧ (X.1 forbidden_tg = (214, 22, 36, 0, 0)) ∧ (formCount_tg ≤ (X.2.1 forms_tg : Int)) ∧ (ruleCount_tg ≤ (X.2.1 rules_tg : Int)) ∧ (ruleCount_tg = (X.2.2.2 : Int)) ∧ va_at (dC, dI) vwCl (a0, .inr (4, [.long countedUncut_a0, .long counted_a0, .int (kz left_a0), .ref told_a0, .int (kz toldCount_a0), .ref grown_a0, .ref keys_a0, .int (kz keyCount_a0), .ref tongue_a0, .ref lattice_a0])) H ∧ va_at (dC, dI) vwCl (tongue_a0, .inr (9, [.ref forms_tg, .ref rules_tg, .int (kz formCount_tg), .int (kz ruleCount_tg), .ref forbidden_tg])) H ∧ va_at (dC, dI) vwCl (keys_a0, .inl (ca 20, 8, .inl kf)) H ∧ va_at (dC, dI) vwCl (forms_tg, je_q ca 40 24 tf) H ∧ (∀ j : Nat, (j : Int) < toldCount_a0 → pok (dC, dI) ca X tf (8 * Int.toNat pp_a0 + j) (rk j) (G j) H) ∧ (∀ i j : Nat, (i : Int) < toldCount_a0 → (j : Int) < toldCount_a0 → rk i = rk j → i = j)
set_option maxHeartbeats 4000000 in
set_option maxRecDepth 100000 in
/-- X4_growPaths -/
theorem c_growPaths (l : Launch) (dC : Nat → ClassId) (dI : Nat → Nat → Nat) (ca : Nat → ClassId) (A : Nat → Prop) (X : jG) (hU : jU X) (Hp : Heap) (a0 : Nat) (g_a0 : X.1 a0 = (4, 30, 0, 0, 0)) : Met l yX4_growPaths wsX4_growPaths ({ frames := 4, cells := 0, slots := 0, locals := 98 }) (va_Pc [.ref a0] (fun U => U.heap = Hp ∧ jK (dC, dI) ca U ∧ jv (dC, dI) ca A X U.heap ∧ PW dC dI ca X a0 U.heap)) (va_Qv (fun (u : jG) => jup X u) (fun (u : jG) U => jK (dC, dI) ca U ∧ jv (dC, dI) ca A u U.heap ∧ kfm X [0, 4, 5, 210, 211, 228] Hp U.heap ∧ PW dC dI ca u a0 U.heap) A) 0 0 A := by
  refine Met.ofW (cc := cX4_growPaths) (maxL := 2) (ret := none) (by decide) rfl ?_
  intro p e s m args below meth c s₁ B hml hv
  obtain ⟨rfl, hHp, ⟨hK, hN⟩, hI, hPW⟩ := hv
  have hx := B.exec
  have hb := B.bytes
  have hr := B.returns
  have hts := atoms_spec (ws := wsX4_growPaths) B.pre
  have hown : s.vm.findClass RX4 = some m.cls := findClass_of_methodNamed B.named
  have hL39 := hts (.fieldLink RX4 39 "JoinBench$Parter" "keyCount" "I") (by decide +kernel)
  have hL28 := hts (.fieldLink RX4 28 "JoinBench$Parter" "toldCount" "I") (by decide +kernel)
  have hL24 := hts (.fieldLink RX4 24 "JoinBench$Parter" "told" "[LJoinBench$Path;") (by decide +kernel)
  have hL82 := hts (.fieldLink RX4 82 "JoinBench$Path" "ended" "Z") (by decide +kernel)
  have hL115 := hts (.fieldLink RX4 115 "JoinBench$Path" "cost" "I") (by decide +kernel)
  have hL127 := hts (.fieldLink RX4 127 "JoinBench$Path" "rank" "I") (by decide +kernel)
  have hL32 := hts (.fieldLink RX4 32 "JoinBench$Parter" "grown" "[LJoinBench$Path;") (by decide +kernel)
  have hL35 := hts (.fieldLink RX4 35 "JoinBench$Parter" "keys" "[I") (by decide +kernel)
  have hinX4 : ∀ w ∈ u_ws RX4 TX4 10, w ∈ wsX4_growPaths := by decide +kernel
  have hinX5 : ∀ w ∈ u_ws RX5 TX5 6, w ∈ wsX4_growPaths := by decide +kernel
  obtain ⟨H, hH⟩ : ∃ H : Heap, H = s.heap := ⟨_, rfl⟩
  have hS : va_S A s.heap H [] := by rw [hH]; exact va_S.rf
  have hF : kfk X [] Hp H := by rw [hH, hHp]; exact fk_rf _ _ _
  have hT := jup_rf X
  have hF : kfm X [0, 4, 5, 210, 211, 228] Hp H := by rw [hH, hHp]; exact fm_rf _ _ _
  rw [← hH] at hI hPW ⊢
  clear hH
  obtain ⟨pp_a0, countedUncut_a0, counted_a0, left_a0, told_a0, toldCount_a0, grown_a0, keys_a0, keyCount_a0, tongue_a0, lattice_a0, forms_tg, rules_tg, formCount_tg, ruleCount_tg, forbidden_tg, kf, tf, rk, G, left_a0i, g_told_a0, toldCount_a0i, g_grown_a0, g_keys_a0, keyCount_a0i, g_tongue_a0, g_lattice_a0, x_a0_0, x_a0_1, g_forms_tg, g_rules_tg, formCount_tgi, ruleCount_tgi, g_forbidden_tg, x_tg_0, x_tg_1, x_tg_2, co_a0, co_tg, c_kf, c_tf, hpk, hdi⟩ := hPW
  have k_kf := ok20_full (X := jk X) (a := keys_a0) (n := 8) kf
  have k_tf := kq24 hI g_forms_tg c_tf
  have hl := lv_entry ([.ref a0]) (n := 2) (Nat.le_of_ble_eq_true rfl)
  rw [lg_entry_eq]
  generalize (lg_sl ([.ref a0]) ++ List.replicate (2 - (lg_sl ([.ref a0])).length) Slot.unset).toArray = ls at hl ⊢
  have hl : lv_has ls 2 [(0, .ref a0)] := hl
  refine lv_aload_n hx hb dX4_growPaths_0 rfl (lv_at hl 0 rfl) ?_
  refine lv_iconst (v := kz 0) hx hb dX4_growPaths_1 rfl ?_
  refine iz_put (D := (dC, dI)) (ci := 4) (v := .int (kz 0)) (ty := .int) (C := RX4) (T := TX4) (N := 10) hx hb hts hinX4 tyX4 tyX4_ok nmX4 hown hK co_a0 hS (jv_A hI g_a0 (show (30 : Nat) ≠ 0 by decide)) rfl 7 (by decide) hL39 (fun _ h9 => h9) rfl (by decide +kernel) rfl rfl (Nat.le_of_ble_eq_true rfl) dX4_growPaths_2 (fun H locs c9 oq hS => ?_)
  have hI := jv_set hI c9 oq (by rw [g_a0]; exact jv_c4 ⟨pp_a0, countedUncut_a0, counted_a0, left_a0, told_a0, toldCount_a0, grown_a0, keys_a0, 0, tongue_a0, lattice_a0, rfl, ⟨by omega, by omega⟩, g_told_a0, ⟨by omega, by omega⟩, g_grown_a0, g_keys_a0, ⟨by omega, by omega⟩, g_tongue_a0, g_lattice_a0, by omega, by omega⟩)
  have hF := fm_put hF g_a0 (show (4 : Nat) ∈ [0, 4, 5, 210, 211, 228] by decide) oq
  have co_tg := co_tg.kept (oq _ (kn_ne g_tongue_a0 g_a0 (show (9 : Nat) ≠ 4 by decide)))
  have c_kf := c_kf.kept (oq _ (kn_ne g_keys_a0 g_a0 (show (228 : Nat) ≠ 4 by decide)))
  have c_tf := c_tf.kept (oq _ (kn_ne g_forms_tg g_a0 (show (212 : Nat) ≠ 4 by decide)))
  have hpk := fun (j : Nat) (hj : (j : Int) < toldCount_a0) => pok_oq (hpk j hj) g_a0 (by decide) oq
  have co_a0 := c9
  clear oq c9
  refine lv_iconst (v := kz 0) hx hb dX4_growPaths_5 rfl ?_
  refine lv_istore_n (lv' := [(1, .int (kz 0)), (0, .ref a0)]) hx hb dX4_growPaths_6 rfl hl (by decide) rfl (fun ls hl => ?_)
  refine iz_loopA1 (α := (Nat → Int32) × Int) (P := fun N9 u9 k H locs ls => (0 ≤ k) ∧ (k ≤ toldCount_a0) ∧ (KS u9.1 u9.2 (PL rk G k)) ∧ (0 ≤ u9.2) ∧ (u9.2 ≤ 8) ∧ 8 - k ≤ (N9 : Int) ∧ lv_has ls 2 [(1, .int (kz k)), (0, .ref a0)] ∧ jv (dC, dI) ca A X H ∧ va_S A s.heap H locs ∧ kfm X [0, 4, 5, 210, 211, 228] Hp H ∧ va_at (dC, dI) vwCl (a0, .inr (4, [.long countedUncut_a0, .long counted_a0, .int (kz left_a0), .ref told_a0, .int (kz toldCount_a0), .ref grown_a0, .ref keys_a0, .int (kz u9.2), .ref tongue_a0, .ref lattice_a0])) H ∧ va_at (dC, dI) vwCl (tongue_a0, .inr (9, [.ref forms_tg, .ref rules_tg, .int (kz formCount_tg), .int (kz ruleCount_tg), .ref forbidden_tg])) H ∧ va_at (dC, dI) vwCl (keys_a0, .inl (ca 20, 8, .inl u9.1)) H ∧ va_at (dC, dI) vwCl (forms_tg, je_q ca 40 24 tf) H ∧ (∀ j : Nat, (j : Int) < toldCount_a0 → pok (dC, dI) ca X tf (8 * Int.toNat pp_a0 + j) (rk j) (G j) H)) 100000 (kf, 0) (x0 := 0) ?_ ⟨by omega, by omega, KS_0 _ _, by omega, by omega, by omega, lv_sub hl [0, 1] rfl, hI, hS, hF, co_a0, co_tg, c_kf, c_tf, hpk⟩
  intro n_1 ⟨kf_n_1, kc_n_1⟩ k H locs ls ⟨n_1f0, n_1f1, n_1f2, n_1f3, n_1f4, n_1f5, hl, hI, hS, hF, co_a0, co_tg, c_kf_n_1, c_tf, hpk⟩ ihn_1
  have k_kf_n_1 := ok20_full (X := jk X) (a := keys_a0) (n := 8) kf_n_1
  have co_a0 : va_at (dC, dI) vwCl (a0, .inr (4, [.long countedUncut_a0, .long counted_a0, .int (kz left_a0), .ref told_a0, .int (kz toldCount_a0), .ref grown_a0, .ref keys_a0, .int (kz kc_n_1), .ref tongue_a0, .ref lattice_a0])) H := co_a0
  have c_kf_n_1 : va_at (dC, dI) vwCl (keys_a0, .inl (ca 20, 8, .inl kf_n_1)) H := c_kf_n_1
  have n_1f0 : 0 ≤ k := n_1f0
  have n_1f1 : k ≤ toldCount_a0 := n_1f1
  have n_1f2 : KS kf_n_1 kc_n_1 (PL rk G k) := n_1f2
  have n_1f3 : 0 ≤ kc_n_1 := n_1f3
  have n_1f4 : kc_n_1 ≤ 8 := n_1f4
  refine lv_iload_n hx hb dX4_growPaths_7 rfl (lv_at hl 0 rfl) ?_
  refine lv_aload_n hx hb dX4_growPaths_8 rfl (lv_at hl 1 rfl) ?_
  refine iz_get (D := (dC, dI)) (ci := 4) (v := .int (kz toldCount_a0)) (C := RX4) (T := TX4) (N := 10) hx hb hts hinX4 hown hK co_a0 rfl 4 (by decide) hL28 (fun _ h9 => h9) rfl dX4_growPaths_9 ?_
  refine iz_ge (tgt := 80) hx hb dX4_growPaths_12 (by decide) (by unfold rg2; omega) (fun br_2 => ?_) (fun br_2 => ?_)
  · refine lv_iconst (v := kz 0) hx hb dX4_growPaths_80 rfl ?_
    refine lv_istore_n (lv' := [(1, .int (kz 0)), (0, .ref a0)]) hx hb dX4_growPaths_81 rfl hl (by decide) rfl (fun ls hl => ?_)
    refine iz_loopA1 (α := jG) (P := fun N9 X9 k H locs ls => (0 ≤ k) ∧ (k ≤ kc_n_1) ∧ (∀ j : Nat, (j : Int) < toldCount_a0 → pok (dC, dI) ca X9 tf (8 * Int.toNat pp_a0 + j) (rk j) (G j) H) ∧ (∀ j : Nat, (j : Int) < k → ∃ Gp : Int → Prop, pok (dC, dI) ca X9 tf (8 * Int.toNat (1 - pp_a0) + j) (kcnt kf_n_1 (ge1 kf_n_1 (j : Int) % 16384) (Int.toNat kc_n_1)) Gp H) ∧ (8 - k ≤ (N9 : Int)) ∧ lv_has ls 2 [(1, .int (kz k)), (0, .ref a0)] ∧ jup X X9 ∧ jv (dC, dI) ca A X9 H ∧ va_S A s.heap H locs ∧ kfm X9 [0, 4, 5, 210, 211, 228] Hp H ∧ va_at (dC, dI) vwCl (a0, .inr (4, [.long countedUncut_a0, .long counted_a0, .int (kz left_a0), .ref told_a0, .int (kz toldCount_a0), .ref grown_a0, .ref keys_a0, .int (kz kc_n_1), .ref tongue_a0, .ref lattice_a0])) H ∧ va_at (dC, dI) vwCl (tongue_a0, .inr (9, [.ref forms_tg, .ref rules_tg, .int (kz formCount_tg), .int (kz ruleCount_tg), .ref forbidden_tg])) H ∧ va_at (dC, dI) vwCl (keys_a0, .inl (ca 20, 8, .inl kf_n_1)) H ∧ va_at (dC, dI) vwCl (forms_tg, je_q ca 40 24 tf) H) 100000 X (x0 := 0) ?_ ⟨by omega, by omega, hpk, fun j hj => absurd hj (by omega), by omega, lv_sub hl [0, 1] rfl, jup_rf _, hI, hS, hF, co_a0, co_tg, c_kf_n_1, c_tf⟩
    intro n_3 X k H locs ls ⟨g0, g1, hpk, hgr, g2, hl, hT_n_3, hI, hS, hF, co_a0, co_tg, c_kf_n_1, c_tf⟩ ihn_3
    have x_tg_0 : formCount_tg ≤ (X.2.1 forms_tg : Int) := by have h9 := (hT_n_3.2.2 forms_tg).1; omega
    have x_tg_1 : ruleCount_tg ≤ (X.2.1 rules_tg : Int) := by have h9 := (hT_n_3.2.2 rules_tg).1; omega
    have x_tg_2 : ruleCount_tg = (X.2.2.2 : Int) := by rw [hT_n_3.2.1]; exact x_tg_2
    have g_a0 := up_t hT_n_3 g_a0
    have g_told_a0 := up_t hT_n_3 g_told_a0
    have g_grown_a0 := up_t hT_n_3 g_grown_a0
    have g_keys_a0 := up_t hT_n_3 g_keys_a0
    have g_tongue_a0 := up_t hT_n_3 g_tongue_a0
    have g_lattice_a0 := up_t hT_n_3 g_lattice_a0
    have g_forms_tg := up_t hT_n_3 g_forms_tg
    have g_rules_tg := up_t hT_n_3 g_rules_tg
    have g_forbidden_tg := up_t hT_n_3 g_forbidden_tg
    have hU := up_U hT_n_3 hU
    have hT := jup_tr hT hT_n_3
    have k_kf_n_1 := ok20_full (X := jk X) (a := keys_a0) (n := 8) kf_n_1
    have k_tf := kq24 hI g_forms_tg c_tf
    refine lv_iload_n hx hb dX4_growPaths_82 rfl (lv_at hl 0 rfl) ?_
    refine lv_aload_n hx hb dX4_growPaths_83 rfl (lv_at hl 1 rfl) ?_
    refine iz_get (D := (dC, dI)) (ci := 4) (v := .int (kz kc_n_1)) (C := RX4) (T := TX4) (N := 10) hx hb hts hinX4 hown hK co_a0 rfl 7 (by decide) hL39 (fun _ h9 => h9) rfl dX4_growPaths_84 ?_
    refine iz_ge (tgt := 112) hx hb dX4_growPaths_87 (by decide) (by unfold rg2; omega) (fun br_4 => ?_) (fun br_4 => ?_)
    · have hgr := fun (j : Nat) (hj : (j : Int) < kc_n_1) => hgr j (by omega)
      clear hpk
      refine lv_aload_n hx hb dX4_growPaths_112 rfl (lv_at hl 1 rfl) ?_
      refine lv_aload_n hx hb dX4_growPaths_113 rfl (lv_at hl 1 rfl) ?_
      refine iz_get (D := (dC, dI)) (ci := 4) (v := .int (kz kc_n_1)) (C := RX4) (T := TX4) (N := 10) hx hb hts hinX4 hown hK co_a0 rfl 7 (by decide) hL39 (fun _ h9 => h9) rfl dX4_growPaths_114 ?_
      refine iz_put (D := (dC, dI)) (ci := 4) (v := .int (kz kc_n_1)) (ty := .int) (C := RX4) (T := TX4) (N := 10) hx hb hts hinX4 tyX4 tyX4_ok nmX4 hown hK co_a0 hS (jv_A hI g_a0 (show (30 : Nat) ≠ 0 by decide)) rfl 4 (by decide) hL28 (fun _ h9 => h9) rfl (by decide +kernel) rfl rfl (Nat.le_of_ble_eq_true rfl) dX4_growPaths_117 (fun H locs c9 oq hS => ?_)
      have hI := jv_set hI c9 oq (by rw [g_a0]; exact jv_c4 ⟨pp_a0, countedUncut_a0, counted_a0, left_a0, told_a0, kc_n_1, grown_a0, keys_a0, kc_n_1, tongue_a0, lattice_a0, rfl, ⟨by omega, by omega⟩, g_told_a0, ⟨by omega, by omega⟩, g_grown_a0, g_keys_a0, ⟨by omega, by omega⟩, g_tongue_a0, g_lattice_a0, by omega, by omega⟩)
      have hF := fm_put hF g_a0 (show (4 : Nat) ∈ [0, 4, 5, 210, 211, 228] by decide) oq
      have co_tg := co_tg.kept (oq _ (kn_ne g_tongue_a0 g_a0 (show (9 : Nat) ≠ 4 by decide)))
      have c_kf_n_1 := c_kf_n_1.kept (oq _ (kn_ne g_keys_a0 g_a0 (show (228 : Nat) ≠ 4 by decide)))
      have c_tf := c_tf.kept (oq _ (kn_ne g_forms_tg g_a0 (show (212 : Nat) ≠ 4 by decide)))
      have hgr := fun (j : Nat) (hj : (j : Int) < kc_n_1) => let ⟨Gp, hp⟩ := hgr j hj; (⟨Gp, pok_oq hp g_a0 (by decide) oq⟩ : ∃ Gp : Int → Prop, pok (dC, dI) ca X tf (8 * Int.toNat (1 - pp_a0) + j) (kcnt kf_n_1 (ge1 kf_n_1 (j : Int) % 16384) (Int.toNat kc_n_1)) Gp H)
      have co_a0 := c9
      clear oq c9
      refine lv_aload_n hx hb dX4_growPaths_120 rfl (lv_at hl 1 rfl) ?_
      refine iz_get (D := (dC, dI)) (ci := 4) (v := .ref told_a0) (C := RX4) (T := TX4) (N := 10) hx hb hts hinX4 hown hK co_a0 rfl 3 (by decide) hL24 (fun _ h9 => h9) rfl dX4_growPaths_121 ?_
      refine lv_astore_n (lv' := [(1, .ref told_a0), (0, .ref a0)]) hx hb dX4_growPaths_124 rfl hl (by decide) rfl (fun ls hl => ?_)
      refine lv_aload_n hx hb dX4_growPaths_125 rfl (lv_at hl 1 rfl) ?_
      refine lv_aload_n hx hb dX4_growPaths_126 rfl (lv_at hl 1 rfl) ?_
      refine iz_get (D := (dC, dI)) (ci := 4) (v := .ref grown_a0) (C := RX4) (T := TX4) (N := 10) hx hb hts hinX4 hown hK co_a0 rfl 5 (by decide) hL32 (fun _ h9 => h9) rfl dX4_growPaths_127 ?_
      refine iz_put (D := (dC, dI)) (ci := 4) (v := .ref grown_a0) (ty := .array (.object "JoinBench$Path")) (C := RX4) (T := TX4) (N := 10) hx hb hts hinX4 tyX4 tyX4_ok nmX4 hown hK co_a0 hS (jv_A hI g_a0 (show (30 : Nat) ≠ 0 by decide)) rfl 3 (by decide) hL24 (fun _ h9 => h9) rfl (by decide +kernel) rfl rfl (Nat.le_of_ble_eq_true rfl) dX4_growPaths_130 (fun H locs co_a0 oq hS => ?_)
      have hF := fm_put hF g_a0 (show (4 : Nat) ∈ [0, 4, 5, 210, 211, 228] by decide) oq
      have hgr := fun (j : Nat) (hj : (j : Int) < kc_n_1) => let ⟨Gp, hp⟩ := hgr j hj; (⟨Gp, pok_oq hp g_a0 (by decide) oq⟩ : ∃ Gp : Int → Prop, pok (dC, dI) ca X tf (8 * Int.toNat (1 - pp_a0) + j) (kcnt kf_n_1 (ge1 kf_n_1 (j : Int) % 16384) (Int.toNat kc_n_1)) Gp H)
      have co_tg := co_tg.kept (oq _ (kn_ne g_tongue_a0 g_a0 (show (9 : Nat) ≠ 4 by decide)))
      have c_kf_n_1 := c_kf_n_1.kept (oq _ (kn_ne g_keys_a0 g_a0 (show (228 : Nat) ≠ 4 by decide)))
      have c_tf := c_tf.kept (oq _ (kn_ne g_forms_tg g_a0 (show (212 : Nat) ≠ 4 by decide)))
      have oq1 := oq
      clear oq
      refine lv_aload_n hx hb dX4_growPaths_133 rfl (lv_at hl 1 rfl) ?_
      refine lv_aload_n hx hb dX4_growPaths_134 rfl (lv_at hl 0 rfl) ?_
      refine iz_put (D := (dC, dI)) (ci := 4) (v := .ref told_a0) (ty := .array (.object "JoinBench$Path")) (C := RX4) (T := TX4) (N := 10) hx hb hts hinX4 tyX4 tyX4_ok nmX4 hown hK co_a0 hS (jv_A hI g_a0 (show (30 : Nat) ≠ 0 by decide)) rfl 5 (by decide) hL32 (fun _ h9 => h9) rfl (by decide +kernel) rfl rfl (Nat.le_of_ble_eq_true rfl) dX4_growPaths_135 (fun H locs co_a0 oq hS => ?_)
      have hF := fm_put hF g_a0 (show (4 : Nat) ∈ [0, 4, 5, 210, 211, 228] by decide) oq
      have hgr := fun (j : Nat) (hj : (j : Int) < kc_n_1) => let ⟨Gp, hp⟩ := hgr j hj; (⟨Gp, pok_oq hp g_a0 (by decide) oq⟩ : ∃ Gp : Int → Prop, pok (dC, dI) ca X tf (8 * Int.toNat (1 - pp_a0) + j) (kcnt kf_n_1 (ge1 kf_n_1 (j : Int) % 16384) (Int.toNat kc_n_1)) Gp H)
      have co_tg := co_tg.kept (oq _ (kn_ne g_tongue_a0 g_a0 (show (9 : Nat) ≠ 4 by decide)))
      have c_kf_n_1 := c_kf_n_1.kept (oq _ (kn_ne g_keys_a0 g_a0 (show (228 : Nat) ≠ 4 by decide)))
      have c_tf := c_tf.kept (oq _ (kn_ne g_forms_tg g_a0 (show (212 : Nat) ≠ 4 by decide)))
      have gg : X.1 told_a0 = (226, 26, 8, 1 - (1 - pp_a0), 0) := by rw [show (1 - (1 - pp_a0) : Int) = pp_a0 by omega]; exact g_told_a0
      have hI := jv_set hI co_a0 (fun q hq => (oq q hq).trans (oq1 q hq)) (by rw [g_a0]; exact jv_c4 ⟨1 - pp_a0, countedUncut_a0, counted_a0, left_a0, grown_a0, kc_n_1, told_a0, keys_a0, kc_n_1, tongue_a0, lattice_a0, rfl, ⟨by omega, by omega⟩, g_grown_a0, ⟨by omega, by omega⟩, gg, g_keys_a0, ⟨by omega, by omega⟩, g_tongue_a0, g_lattice_a0, by omega, by omega⟩)
      clear oq oq1
      obtain ⟨G9, hG9⟩ := ch_all hgr
      exact W.vret hx hb hr (fun t9 ht hW => ⟨⟨X, rfl, hT, jK_warm hW ⟨hK, hN⟩, by rw [ht]; exact ⟨hI, fm_dn hT hF, ⟨(1 - pp_a0), countedUncut_a0, counted_a0, left_a0, grown_a0, kc_n_1, told_a0, keys_a0, kc_n_1, tongue_a0, lattice_a0, forms_tg, rules_tg, formCount_tg, ruleCount_tg, forbidden_tg, kf_n_1, tf, (fun j => kcnt kf_n_1 (ge1 kf_n_1 (j : Int) % 16384) (Int.toNat kc_n_1)), G9, by omega, g_grown_a0, by omega, gg, g_keys_a0, by omega, g_tongue_a0, g_lattice_a0, by omega, by omega, g_forms_tg, g_rules_tg, by omega, by omega, g_forbidden_tg, by omega, by omega, by omega, co_a0, co_tg, c_kf_n_1, c_tf, hG9, kcnt_di n_1f2⟩⟩⟩, hS.F ht⟩) hS.2.2 dX4_growPaths_138
    · refine lv_aload_n hx hb dX4_growPaths_90 rfl (lv_at hl 1 rfl) ?_
      refine lv_aload_n hx hb dX4_growPaths_91 rfl (lv_at hl 1 rfl) ?_
      refine iz_get (D := (dC, dI)) (ci := 4) (v := .ref grown_a0) (C := RX4) (T := TX4) (N := 10) hx hb hts hinX4 hown hK co_a0 rfl 5 (by decide) hL32 (fun _ h9 => h9) rfl dX4_growPaths_92 ?_
      refine lv_iload_n hx hb dX4_growPaths_95 rfl (lv_at hl 0 rfl) ?_
      obtain ⟨f_5, c_f_5, k_f_5⟩ := jv_q26 hI g_grown_a0
      refine jz_aald hx hb hK 6 c_f_5 rfl rfl (by omega) (by decide) dX4_growPaths_96 ?_
      obtain ⟨b_6, eb_6, g_b_6⟩ := k_f_5 (Int.toNat k) (by omega)
      rw [eb_6]
      refine W.eq (g2 := F0 m 97 ls [.ref b_6, .ref a0]) rfl ?_
      refine lv_aload_n hx hb dX4_growPaths_97 rfl (lv_at hl 1 rfl) ?_
      refine iz_get (D := (dC, dI)) (ci := 4) (v := .ref keys_a0) (C := RX4) (T := TX4) (N := 10) hx hb hts hinX4 hown hK co_a0 rfl 6 (by decide) hL35 (fun _ h9 => h9) rfl dX4_growPaths_98 ?_
      refine lv_iload_n hx hb dX4_growPaths_101 rfl (lv_at hl 0 rfl) ?_
      refine iz_iald hx hb hK 0 c_kf_n_1 rfl (by omega) (by decide) dX4_growPaths_102 ?_
      obtain ⟨v_7a, v_7b, -⟩ := k_kf_n_1 k (by omega)
      obtain ⟨v_7, ev_7⟩ : ∃ z9 : Int, ge1 kf_n_1 k = z9 := ⟨_, rfl⟩
      rw [ev_7] at v_7a v_7b ⊢
      obtain ⟨fs9, co_8, jo9⟩ := jv_o5 hI g_b_6
      obtain ⟨chain_8, cost_8, spent_8, place_8, ended_8, rank_8, rfl, g_chain_8, ⟨cost_8a, cost_8b⟩, ⟨spent_8a, spent_8b⟩, ⟨place_8a, place_8b⟩, ⟨ended_8a, ended_8b⟩, ⟨rank_8a, rank_8b⟩⟩ := jo9
      refine va_callv (va_runV (As := [.ref b_6, .int (kz v_7)]) (rest := []) ⟨hx, hb, hml, hown, hts⟩ (c_grow l dC dI ca A X hU H a0 b_6 v_7 (8 * Int.toNat (1 - pp_a0) + (Int.toNat k)) rk G pp_a0 countedUncut_a0 counted_a0 left_a0 told_a0 toldCount_a0 grown_a0 keys_a0 kc_n_1 tongue_a0 lattice_a0 chain_8 cost_8 spent_8 place_8 ended_8 rank_8 forms_tg rules_tg formCount_tg ruleCount_tg forbidden_tg kf_n_1 tf g_a0 g_b_6 (by omega) g_told_a0 (by omega) g_grown_a0 g_keys_a0 (by omega) g_tongue_a0 g_lattice_a0 (by omega) (by omega) g_chain_8 (by omega) (by omega) (by omega) (by omega) (by omega) g_forms_tg g_rules_tg (by omega) (by omega) g_forbidden_tg (by omega) (by omega) (by omega) (by omega) (fun j hj => by omega) (by obtain ⟨j9, q1, q2, q3⟩ := n_1f2.1 k (by omega) (by omega); rw [ev_7] at q2 q3; exact ⟨j9, by omega, by omega, by rw [show v_7 % 2048 = v_7 % 16384 % 2048 by omega]; exact q3⟩) hdi (by have h9 := kcnt_self (f := kf_n_1) (m := v_7 % 16384) (k := Int.toNat kc_n_1) (i := Int.toNat k) (by omega) (by rw [show ((Int.toNat k : Nat) : Int) = k by omega, ev_7]); omega)) (cwV 2 hts gX4_growPaths_X4_grow rfl rfl rfl (by decide +kernel) ⟨Nat.le_of_ble_eq_true rfl, Nat.le_of_ble_eq_true rfl⟩) ⟨fun a U g mk q => by obtain ⟨q0, qH, ⟨qK, qN⟩, qI⟩ := q; exact ⟨q0, qH, ⟨va_K.moved (u := U) (U := U.calling g mk a) (Vm.Alike.refl U.vm) qK, jN_same (U := U.calling g mk a) rfl qN⟩, qI⟩, va_recv hK (at_P co_a0) (ci := 4) (q0 := 0) rfl rfl, fun U hU hW => ⟨rfl, hU, jK_warm hW ⟨hK, hN⟩, by rw [hU]; exact ⟨hI, co_a0, co_8, co_tg, c_kf_n_1, c_tf, hpk⟩⟩⟩ rfl rfl hl.1 rfl (lv_room (Nat.le_of_ble_eq_true rfl)) dX4_growPaths_103 ⟨Nat.le_of_ble_eq_true rfl, Nat.le_of_ble_eq_true rfl⟩) hS (fun q _ h => h) (fun q h => h) (fun X t9 H locs ht hvm hw_9 hB hz1 hk1 hS => ?_)
      obtain ⟨-, hI, hf9, hgp9⟩ := hB
      rw [ht] at hI hf9 hgp9
      clear ht hvm hz1
      have co_a0 := fk_at hf9 g_a0 (by simp [Lp, Lc]) co_a0
      have co_tg := fk_at hf9 g_tongue_a0 (by simp [Lp, Lc]) co_tg
      have c_kf_n_1 := fk_at hf9 g_keys_a0 (by simp [Lp, Lc]) c_kf_n_1
      have c_tf := fk_at hf9 g_forms_tg (by simp [Lp, Lc]) c_tf
      have hpk := fun (j : Nat) (hj : (j : Int) < toldCount_a0) => pok_up hw_9 (fun j9 hj9 => (k_tf j9 hj9).1) (pok_fk (hpk j hj) hf9 (by omega))
      have hgr : ∀ j : Nat, (j : Int) < k + 1 → ∃ Gp : Int → Prop, pok (dC, dI) ca X tf (8 * Int.toNat (1 - pp_a0) + j) (kcnt kf_n_1 (ge1 kf_n_1 (j : Int) % 16384) (Int.toNat kc_n_1)) Gp H := st_all (P := fun j => ∃ Gp : Int → Prop, pok (dC, dI) ca X tf (8 * Int.toNat (1 - pp_a0) + j) (kcnt kf_n_1 (ge1 kf_n_1 (j : Int) % 16384) (Int.toNat kc_n_1)) Gp H) (by omega) (fun j hj => by obtain ⟨Gp, hp⟩ := hgr j hj; exact ⟨Gp, pok_up hw_9 (fun j9 hj9 => (k_tf j9 hj9).1) (pok_fk hp hf9 (by omega))⟩) (by rw [show ((Int.toNat k : Nat) : Int) = k by omega, ev_7]; exact hgp9)
      clear hgp9
      have hF := fm_up hw_9 (fm_tr hF (fk_fm hf9 (Lp_code _)) (by decide))
      have x_tg_0 : formCount_tg ≤ (X.2.1 forms_tg : Int) := by have h9 := (hw_9.2.2 forms_tg).1; omega
      have x_tg_1 : ruleCount_tg ≤ (X.2.1 rules_tg : Int) := by have h9 := (hw_9.2.2 rules_tg).1; omega
      have x_tg_2 : ruleCount_tg = (X.2.2.2 : Int) := by rw [hw_9.2.1]; exact x_tg_2
      have g_a0 := up_t hw_9 g_a0
      have g_told_a0 := up_t hw_9 g_told_a0
      have g_grown_a0 := up_t hw_9 g_grown_a0
      have g_keys_a0 := up_t hw_9 g_keys_a0
      have g_tongue_a0 := up_t hw_9 g_tongue_a0
      have g_lattice_a0 := up_t hw_9 g_lattice_a0
      have g_forms_tg := up_t hw_9 g_forms_tg
      have g_rules_tg := up_t hw_9 g_rules_tg
      have g_forbidden_tg := up_t hw_9 g_forbidden_tg
      have g_chain_8 := up_t hw_9 g_chain_8
      have hU := up_U hw_9 hU
      have hT := jup_tr hT hw_9
      have hT_n_3 := jup_tr hT_n_3 hw_9
      have k_kf_n_1 := ok20_full (X := jk X) (a := keys_a0) (n := 8) kf_n_1
      have k_tf := kq24 hI g_forms_tg c_tf
      clear hk1 hf9
      refine lv_iinc (v := kz (k + 1)) (lv' := [(1, .int (kz (k + 1))), (0, .ref a0)]) hx hb dX4_growPaths_106 hl (k := 0) rfl (kz_add k 1) (by decide) rfl (fun ls hl => ?_)
      refine lv_goto (tgt := 82) hx hb dX4_growPaths_109 (by decide) ?_
      exact ihn_3 (n_3 - 1) (by omega) X (k + 1) _ _ _ ⟨by omega, by omega, hpk, hgr, by omega, lv_sub hl [0, 1] rfl, hT_n_3, hI, hS, hF, co_a0, co_tg, c_kf_n_1, c_tf⟩
  · refine lv_aload_n hx hb dX4_growPaths_15 rfl (lv_at hl 1 rfl) ?_
    refine iz_get (D := (dC, dI)) (ci := 4) (v := .ref told_a0) (C := RX4) (T := TX4) (N := 10) hx hb hts hinX4 hown hK co_a0 rfl 3 (by decide) hL24 (fun _ h9 => h9) rfl dX4_growPaths_16 ?_
    refine lv_iload_n hx hb dX4_growPaths_19 rfl (lv_at hl 0 rfl) ?_
    obtain ⟨f_11, c_f_11, k_f_11⟩ := jv_q26 hI g_told_a0
    refine jz_aald hx hb hK 6 c_f_11 rfl rfl (by omega) (by decide) dX4_growPaths_20 ?_
    obtain ⟨b_12, eb_12, g_b_12⟩ := k_f_11 (Int.toNat k) (by omega)
    rw [eb_12]
    refine W.eq (g2 := F0 m 21 ls [.ref b_12]) rfl ?_
    obtain ⟨b9, ch_b_12, fo_b_12, ru_b_12, co_b_12, sp_b_12, pl_b_12, en_b_12, sz_b_12, ff_b_12, fr_b_12, gb9, gch_b_12, gfo_b_12, gru_b_12, cb_b_12, cch_b_12, cfo_b_12, cru_b_12, r1_b_12, r2_b_12, r3_b_12, r4_b_12, r5_b_12, r6_b_12, r7_b_12, rO_b_12, rG_b_12⟩ := hpk (Int.toNat k) (by omega)
    have e9 : b_12 = b9 := jU_eq hU g_b_12 gb9 (show (30 : Nat) ≠ 0 by decide) (show uq 5 = true by decide)
    subst e9
    clear gb9
    have kfo_b_12 := kq24 hI gfo_b_12 cfo_b_12
    have kru_b_12 := kq25 hI gru_b_12 cru_b_12
    refine iz_get (D := (dC, dI)) (ci := 5) (v := .int (kz en_b_12)) (C := RX5) (T := TX5) (N := 6) hx hb hts hinX5 hown hK cb_b_12 rfl 4 (by decide) hL82 (fun _ h9 => h9) rfl dX4_growPaths_21 ?_
    refine iz_eqz (tgt := 54) hx hb dX4_growPaths_24 (by decide) (by unfold rg2; omega) (fun br_13 => ?_) (fun br_13 => ?_)
    · refine lv_aload_n hx hb dX4_growPaths_54 rfl (lv_at hl 1 rfl) ?_
      refine lv_aload_n hx hb dX4_growPaths_55 rfl (lv_at hl 1 rfl) ?_
      refine iz_get (D := (dC, dI)) (ci := 4) (v := .ref told_a0) (C := RX4) (T := TX4) (N := 10) hx hb hts hinX4 hown hK co_a0 rfl 3 (by decide) hL24 (fun _ h9 => h9) rfl dX4_growPaths_56 ?_
      refine lv_iload_n hx hb dX4_growPaths_59 rfl (lv_at hl 0 rfl) ?_
      refine jz_aald hx hb hK 6 c_f_11 rfl rfl (by omega) (by decide) dX4_growPaths_60 ?_
      rw [eb_12]
      refine W.eq (g2 := F0 m 61 ls [.ref b_12, .ref a0]) rfl ?_
      refine va_callv (va_runV (As := [.ref b_12]) (rest := []) ⟨hx, hb, hml, hown, hts⟩ (c_offerPlain l dC dI ca A X hU H a0 b_12 (8 * Int.toNat pp_a0 + (Int.toNat k)) (PL rk G k) tf pp_a0 countedUncut_a0 counted_a0 left_a0 told_a0 toldCount_a0 grown_a0 keys_a0 kc_n_1 tongue_a0 lattice_a0 ch_b_12 co_b_12 sp_b_12 pl_b_12 en_b_12 (rk (Int.toNat k)) fo_b_12 ru_b_12 sz_b_12 kf_n_1 ff_b_12 fr_b_12 g_a0 g_b_12 (by omega) g_told_a0 (by omega) g_grown_a0 g_keys_a0 (by omega) g_tongue_a0 g_lattice_a0 (by omega) (by omega) gch_b_12 (by omega) (by omega) (by omega) (by omega) (by omega) gfo_b_12 gru_b_12 (by omega) (by omega) (fun a9 ha9 => (rO_b_12 a9 ha9).2) (PL_ne hdi (by omega)) (KS_mono n_1f2 (fun m h => Or.inl h))) (cwV 1 hts gX4_growPaths_X4_offerPlainSteps rfl rfl rfl (by decide +kernel) ⟨Nat.le_of_ble_eq_true rfl, Nat.le_of_ble_eq_true rfl⟩) ⟨fun a U g mk q => by obtain ⟨q0, qH, ⟨qK, qN⟩, qI⟩ := q; exact ⟨q0, qH, ⟨va_K.moved (u := U) (U := U.calling g mk a) (Vm.Alike.refl U.vm) qK, jN_same (U := U.calling g mk a) rfl qN⟩, qI⟩, va_recv hK (at_P co_a0) (ci := 4) (q0 := 0) rfl rfl, fun U hU hW => ⟨rfl, hU, jK_warm hW ⟨hK, hN⟩, by rw [hU]; exact ⟨hI, co_a0, cb_b_12, cch_b_12, c_kf_n_1, cfo_b_12, cru_b_12⟩⟩⟩ rfl rfl hl.1 rfl (lv_room (Nat.le_of_ble_eq_true rfl)) dX4_growPaths_61 ⟨Nat.le_of_ble_eq_true rfl, Nat.le_of_ble_eq_true rfl⟩) hS (fun q _ h => h) (fun q h => h) (fun u t9 H locs ht hvm hw_15 hB hz1 hk1 hS => ?_)
      obtain ⟨-, hI, hf9, hcp, hck⟩ := hB
      rw [ht] at hI hf9 hcp hck
      clear ht hvm hz1
      have hpk := fun (j : Nat) (hj : (j : Int) < toldCount_a0) => pok_fm (hpk j hj) hf9 (by decide)
      have co_tg := fm_at hf9 g_tongue_a0 (show (9 : Nat) ∉ ([4, 228] : List Nat) by decide) co_tg
      have cb_b_12 := fm_at hf9 g_b_12 (show (5 : Nat) ∉ ([4, 228] : List Nat) by decide) cb_b_12
      have cch_b_12 := fm_at hf9 gch_b_12 (show (0 : Nat) ∉ ([4, 228] : List Nat) by decide) cch_b_12
      have c_tf := fm_at hf9 g_forms_tg (show (212 : Nat) ∉ ([4, 228] : List Nat) by decide) c_tf
      have c_f_11 := fm_at hf9 g_told_a0 (show (226 : Nat) ∉ ([4, 228] : List Nat) by decide) c_f_11
      have cfo_b_12 := fm_at hf9 gfo_b_12 (show (210 : Nat) ∉ ([4, 228] : List Nat) by decide) cfo_b_12
      have cru_b_12 := fm_at hf9 gru_b_12 (show (211 : Nat) ∉ ([4, 228] : List Nat) by decide) cru_b_12
      have hF := fm_tr hF hf9 (by decide)
      clear hk1 hf9
      obtain ⟨kf_17, kc_18⟩ := u
      have co_a0 : va_at (dC, dI) vwCl (a0, .inr (4, [.long countedUncut_a0, .long counted_a0, .int (kz left_a0), .ref told_a0, .int (kz toldCount_a0), .ref grown_a0, .ref keys_a0, .int (kz kc_18), .ref tongue_a0, .ref lattice_a0])) H := hcp
      have c_kf_17 : va_at (dC, dI) vwCl (keys_a0, .inl (ca 20, 8, .inl kf_17)) H := hck
      clear hcp hck
      have k_kf_17 := ok20_full (X := jk X) (a := keys_a0) (n := 8) kf_17
      have hw_15 : KS kf_17 kc_18 (PS (PL rk G k) (pG X tf pl_b_12 (lst ff_b_12 sz_b_12) (cutv X (lst fr_b_12 sz_b_12))) (rk (Int.toNat k)) 128) ∧ 0 ≤ kc_18 ∧ kc_18 ≤ 8 := hw_15
      obtain ⟨hw_15, hw_15a, hw_15b⟩ := hw_15
      refine lv_aload_n hx hb dX4_growPaths_64 rfl (lv_at hl 1 rfl) ?_
      refine lv_aload_n hx hb dX4_growPaths_65 rfl (lv_at hl 1 rfl) ?_
      refine iz_get (D := (dC, dI)) (ci := 4) (v := .ref told_a0) (C := RX4) (T := TX4) (N := 10) hx hb hts hinX4 hown hK co_a0 rfl 3 (by decide) hL24 (fun _ h9 => h9) rfl dX4_growPaths_66 ?_
      refine lv_iload_n hx hb dX4_growPaths_69 rfl (lv_at hl 0 rfl) ?_
      refine jz_aald hx hb hK 6 c_f_11 rfl rfl (by omega) (by decide) dX4_growPaths_70 ?_
      rw [eb_12]
      refine W.eq (g2 := F0 m 71 ls [.ref b_12, .ref a0]) rfl ?_
      refine va_callv (va_runV (As := [.ref b_12]) (rest := []) ⟨hx, hb, hml, hown, hts⟩ (c_offerRuled l dC dI ca A X hU H a0 b_12 (8 * Int.toNat pp_a0 + (Int.toNat k)) (PL rk G k) pp_a0 countedUncut_a0 counted_a0 left_a0 told_a0 toldCount_a0 grown_a0 keys_a0 kc_18 tongue_a0 lattice_a0 ch_b_12 co_b_12 sp_b_12 pl_b_12 en_b_12 (rk (Int.toNat k)) fo_b_12 ru_b_12 sz_b_12 forms_tg rules_tg formCount_tg ruleCount_tg forbidden_tg kf_17 ff_b_12 fr_b_12 tf g_a0 g_b_12 (by omega) g_told_a0 (by omega) g_grown_a0 g_keys_a0 (by omega) g_tongue_a0 g_lattice_a0 (by omega) (by omega) gch_b_12 (by omega) (by omega) (by omega) (by omega) (by omega) gfo_b_12 gru_b_12 (by omega) (by omega) g_forms_tg g_rules_tg (by omega) (by omega) g_forbidden_tg (by omega) (by omega) (by omega) (fun a9 ha9 => (rO_b_12 a9 ha9).2) (PL_ne hdi (by omega)) hw_15) (cwV 1 hts gX4_growPaths_X4_offerRuledSteps rfl rfl rfl (by decide +kernel) ⟨Nat.le_of_ble_eq_true rfl, Nat.le_of_ble_eq_true rfl⟩) ⟨fun a U g mk q => by obtain ⟨q0, qH, ⟨qK, qN⟩, qI⟩ := q; exact ⟨q0, qH, ⟨va_K.moved (u := U) (U := U.calling g mk a) (Vm.Alike.refl U.vm) qK, jN_same (U := U.calling g mk a) rfl qN⟩, qI⟩, va_recv hK (at_P co_a0) (ci := 4) (q0 := 0) rfl rfl, fun U hU hW => ⟨rfl, hU, jK_warm hW ⟨hK, hN⟩, by rw [hU]; exact ⟨hI, co_a0, cb_b_12, cch_b_12, co_tg, c_kf_17, cfo_b_12, cru_b_12, c_tf⟩⟩⟩ rfl rfl hl.1 rfl (lv_room (Nat.le_of_ble_eq_true rfl)) dX4_growPaths_71 ⟨Nat.le_of_ble_eq_true rfl, Nat.le_of_ble_eq_true rfl⟩) hS (fun q _ h => h) (fun q h => h) (fun u t9 H locs ht hvm hw_20 hB hz1 hk1 hS => ?_)
      obtain ⟨-, hI, hf9, hcp, hck⟩ := hB
      rw [ht] at hI hf9 hcp hck
      clear ht hvm hz1
      have hpk := fun (j : Nat) (hj : (j : Int) < toldCount_a0) => pok_fm (hpk j hj) hf9 (by decide)
      have co_tg := fm_at hf9 g_tongue_a0 (show (9 : Nat) ∉ ([4, 228] : List Nat) by decide) co_tg
      have cb_b_12 := fm_at hf9 g_b_12 (show (5 : Nat) ∉ ([4, 228] : List Nat) by decide) cb_b_12
      have cch_b_12 := fm_at hf9 gch_b_12 (show (0 : Nat) ∉ ([4, 228] : List Nat) by decide) cch_b_12
      have c_tf := fm_at hf9 g_forms_tg (show (212 : Nat) ∉ ([4, 228] : List Nat) by decide) c_tf
      have c_f_11 := fm_at hf9 g_told_a0 (show (226 : Nat) ∉ ([4, 228] : List Nat) by decide) c_f_11
      have cfo_b_12 := fm_at hf9 gfo_b_12 (show (210 : Nat) ∉ ([4, 228] : List Nat) by decide) cfo_b_12
      have cru_b_12 := fm_at hf9 gru_b_12 (show (211 : Nat) ∉ ([4, 228] : List Nat) by decide) cru_b_12
      have hF := fm_tr hF hf9 (by decide)
      clear hk1 hf9
      obtain ⟨kf_22, kc_23⟩ := u
      have co_a0 : va_at (dC, dI) vwCl (a0, .inr (4, [.long countedUncut_a0, .long counted_a0, .int (kz left_a0), .ref told_a0, .int (kz toldCount_a0), .ref grown_a0, .ref keys_a0, .int (kz kc_23), .ref tongue_a0, .ref lattice_a0])) H := hcp
      have c_kf_22 : va_at (dC, dI) vwCl (keys_a0, .inl (ca 20, 8, .inl kf_22)) H := hck
      clear hcp hck
      have k_kf_22 := ok20_full (X := jk X) (a := keys_a0) (n := 8) kf_22
      have hw_20 : KS kf_22 kc_23 (PS (PL rk G k) (pG X tf pl_b_12 (lst ff_b_12 sz_b_12) (cutv X (lst fr_b_12 sz_b_12))) (rk (Int.toNat k)) 2048) ∧ 0 ≤ kc_23 ∧ kc_23 ≤ 8 := hw_20
      obtain ⟨hw_20, hw_20a, hw_20b⟩ := hw_20
      refine lv_iinc (v := kz (k + 1)) (lv' := [(1, .int (kz (k + 1))), (0, .ref a0)]) hx hb dX4_growPaths_74 hl (k := 0) rfl (kz_add k 1) (by decide) rfl (fun ls hl => ?_)
      refine lv_goto (tgt := 7) hx hb dX4_growPaths_77 (by decide) ?_
      exact ihn_1 (n_1 - 1) (by omega) (kf_22, kc_23) (k + 1) _ _ _ ⟨by omega, by omega, KS_mono hw_20 (fun m h => PL_in (by omega) (by rw [rG_b_12]; exact h)), by omega, by omega, by omega, lv_sub hl [0, 1] rfl, hI, hS, hF, co_a0, co_tg, c_kf_22, c_tf, hpk⟩
    · refine lv_aload_n hx hb dX4_growPaths_27 rfl (lv_at hl 1 rfl) ?_
      refine lv_aload_n hx hb dX4_growPaths_28 rfl (lv_at hl 1 rfl) ?_
      refine iz_get (D := (dC, dI)) (ci := 4) (v := .ref told_a0) (C := RX4) (T := TX4) (N := 10) hx hb hts hinX4 hown hK co_a0 rfl 3 (by decide) hL24 (fun _ h9 => h9) rfl dX4_growPaths_29 ?_
      refine lv_iload_n hx hb dX4_growPaths_32 rfl (lv_at hl 0 rfl) ?_
      refine jz_aald hx hb hK 6 c_f_11 rfl rfl (by omega) (by decide) dX4_growPaths_33 ?_
      rw [eb_12]
      refine W.eq (g2 := F0 m 34 ls [.ref b_12, .ref a0]) rfl ?_
      refine iz_get (D := (dC, dI)) (ci := 5) (v := .int (kz co_b_12)) (C := RX5) (T := TX5) (N := 6) hx hb hts hinX5 hown hK cb_b_12 rfl 1 (by decide) hL115 (fun _ h9 => h9) rfl dX4_growPaths_34 ?_
      refine lv_aload_n hx hb dX4_growPaths_37 rfl (lv_at hl 1 rfl) ?_
      refine iz_get (D := (dC, dI)) (ci := 4) (v := .ref told_a0) (C := RX4) (T := TX4) (N := 10) hx hb hts hinX4 hown hK co_a0 rfl 3 (by decide) hL24 (fun _ h9 => h9) rfl dX4_growPaths_38 ?_
      refine lv_iload_n hx hb dX4_growPaths_41 rfl (lv_at hl 0 rfl) ?_
      refine jz_aald hx hb hK 6 c_f_11 rfl rfl (by omega) (by decide) dX4_growPaths_42 ?_
      rw [eb_12]
      refine W.eq (g2 := F0 m 43 ls [.ref b_12, .int (kz co_b_12), .ref a0]) rfl ?_
      refine iz_get (D := (dC, dI)) (ci := 5) (v := .int (kz (rk (Int.toNat k)))) (C := RX5) (T := TX5) (N := 6) hx hb hts hinX5 hown hK cb_b_12 rfl 5 (by decide) hL127 (fun _ h9 => h9) rfl dX4_growPaths_43 ?_
      refine lv_iconst (v := kz 0) hx hb dX4_growPaths_46 rfl ?_
      refine lv_iconst (v := kz 0) hx hb dX4_growPaths_47 rfl ?_
      refine va_callv (va_runV (As := [.int (kz co_b_12), .int (kz (rk (Int.toNat k))), .int (kz 0), .int (kz 0)]) (rest := []) ⟨hx, hb, hml, hown, hts⟩ (c_offer l dC dI ca A X hU H a0 co_b_12 (rk (Int.toNat k)) 0 0 (PL rk G k) (G (Int.toNat k)) 0 pp_a0 countedUncut_a0 counted_a0 left_a0 told_a0 toldCount_a0 grown_a0 keys_a0 kc_n_1 tongue_a0 lattice_a0 kf_n_1 g_a0 (by omega) g_told_a0 (by omega) g_grown_a0 g_keys_a0 (by omega) g_tongue_a0 g_lattice_a0 (by omega) (by omega) (by omega) (by omega) (by omega) (by omega) (KS_mono n_1f2 (fun m h => Or.inl h)) (by omega) (PL_ne hdi (by omega)) (by rw [rG_b_12]; exact Or.inl (by decide))) (cwV 4 hts gX4_growPaths_X4_offer rfl rfl rfl (by decide +kernel) ⟨Nat.le_of_ble_eq_true rfl, Nat.le_of_ble_eq_true rfl⟩) ⟨fun a U g mk q => by obtain ⟨q0, qH, ⟨qK, qN⟩, qI⟩ := q; exact ⟨q0, qH, ⟨va_K.moved (u := U) (U := U.calling g mk a) (Vm.Alike.refl U.vm) qK, jN_same (U := U.calling g mk a) rfl qN⟩, qI⟩, va_recv hK (at_P co_a0) (ci := 4) (q0 := 0) rfl rfl, fun U hU hW => ⟨rfl, hU, jK_warm hW ⟨hK, hN⟩, by rw [hU]; exact ⟨hI, co_a0, c_kf_n_1⟩⟩⟩ rfl rfl hl.1 rfl (lv_room (Nat.le_of_ble_eq_true rfl)) dX4_growPaths_48 ⟨Nat.le_of_ble_eq_true rfl, Nat.le_of_ble_eq_true rfl⟩) hS (fun q _ h => h) (fun q h => h) (fun u t9 H locs ht hvm hw_26 hB hz1 hk1 hS => ?_)
      obtain ⟨-, hI, hf9, hcp, hck⟩ := hB
      rw [ht] at hI hf9 hcp hck
      clear ht hvm hz1
      have hpk := fun (j : Nat) (hj : (j : Int) < toldCount_a0) => pok_fm (hpk j hj) hf9 (by decide)
      have co_tg := fm_at hf9 g_tongue_a0 (show (9 : Nat) ∉ ([4, 228] : List Nat) by decide) co_tg
      have cb_b_12 := fm_at hf9 g_b_12 (show (5 : Nat) ∉ ([4, 228] : List Nat) by decide) cb_b_12
      have cch_b_12 := fm_at hf9 gch_b_12 (show (0 : Nat) ∉ ([4, 228] : List Nat) by decide) cch_b_12
      have c_tf := fm_at hf9 g_forms_tg (show (212 : Nat) ∉ ([4, 228] : List Nat) by decide) c_tf
      have c_f_11 := fm_at hf9 g_told_a0 (show (226 : Nat) ∉ ([4, 228] : List Nat) by decide) c_f_11
      have cfo_b_12 := fm_at hf9 gfo_b_12 (show (210 : Nat) ∉ ([4, 228] : List Nat) by decide) cfo_b_12
      have cru_b_12 := fm_at hf9 gru_b_12 (show (211 : Nat) ∉ ([4, 228] : List Nat) by decide) cru_b_12
      have hF := fm_tr hF hf9 (by decide)
      clear hk1 hf9
      obtain ⟨kf_28, kc_29⟩ := u
      have co_a0 : va_at (dC, dI) vwCl (a0, .inr (4, [.long countedUncut_a0, .long counted_a0, .int (kz left_a0), .ref told_a0, .int (kz toldCount_a0), .ref grown_a0, .ref keys_a0, .int (kz kc_29), .ref tongue_a0, .ref lattice_a0])) H := hcp
      have c_kf_28 : va_at (dC, dI) vwCl (keys_a0, .inl (ca 20, 8, .inl kf_28)) H := hck
      clear hcp hck
      have k_kf_28 := ok20_full (X := jk X) (a := keys_a0) (n := 8) kf_28
      have hw_26 : KS kf_28 kc_29 (PS (PL rk G k) (G (Int.toNat k)) (rk (Int.toNat k)) (0 * 64 + 0 + 1)) ∧ 0 ≤ kc_29 ∧ kc_29 ≤ 8 := hw_26
      obtain ⟨hw_26, hw_26a, hw_26b⟩ := hw_26
      refine lv_goto (tgt := 74) hx hb dX4_growPaths_51 (by decide) ?_
      refine lv_iinc (v := kz (k + 1)) (lv' := [(1, .int (kz (k + 1))), (0, .ref a0)]) hx hb dX4_growPaths_74 hl (k := 0) rfl (kz_add k 1) (by decide) rfl (fun ls hl => ?_)
      refine lv_goto (tgt := 7) hx hb dX4_growPaths_77 (by decide) ?_
      exact ihn_1 (n_1 - 1) (by omega) (kf_28, kc_29) (k + 1) _ _ _ ⟨by omega, by omega, KS_mono hw_26 (fun m h => PL_in (by omega) h), by omega, by omega, by omega, lv_sub hl [0, 1] rfl, hI, hS, hF, co_a0, co_tg, c_kf_28, c_tf, hpk⟩
