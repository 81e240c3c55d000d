set_option maxHeartbeats 4000000 in
set_option maxRecDepth 100000 in
/-- X4_offer -/
theorem c_offer (l : Launch) (dC : Nat → ClassId) (dI : Nat → Nat → Nat) (ca : Nat → ClassId) (A : Nat → Prop) (X : jG) (hU : jU X) (Hp : Heap) (a0 : Nat) (cs : Int) (rk : Int) (bt : Int) (fm : Int) (Q : Int → Prop) (G : Int → Prop) (l0 : Int) (pp_a0 : Int) (countedUncut_a0 : Int64) (counted_a0 : Int64) (left_a0 : Int) (told_a0 : Nat) (toldCount_a0 : Int) (grown_a0 : Nat) (keys_a0 : Nat) (keyCount_a0 : Int) (tongue_a0 : Nat) (lattice_a0 : Nat) (kf : Nat → Int32) (g_a0 : X.1 a0 = (4, 30, 0, 0, 0)) (left_a0i : 0 ≤ left_a0 ∧ left_a0 ≤ 1) (g_told_a0 : X.1 told_a0 = (226, 26, 8, pp_a0, 0)) (toldCount_a0i : 0 ≤ toldCount_a0 ∧ toldCount_a0 ≤ 8) (g_grown_a0 : X.1 grown_a0 = (226, 26, 8, 1 - pp_a0, 0)) (g_keys_a0 : X.1 keys_a0 = (228, 20, 8, -2147483648, 2147483647)) (keyCount_a0i : 0 ≤ keyCount_a0 ∧ keyCount_a0 ≤ 8) (g_tongue_a0 : X.1 tongue_a0 = (9, 30, 0, 0, 0)) (g_lattice_a0 : X.1 lattice_a0 = (3, 30, 0, 0, 0)) (x_a0_0 : 0 ≤ pp_a0) (x_a0_1 : pp_a0 ≤ 1) (csr : -2147483648 ≤ cs ∧ cs ≤ 2147483647) (rki : 0 ≤ rk ∧ rk ≤ 7) (bti : 0 ≤ bt ∧ bt ≤ 31) (fmi : 0 ≤ fm ∧ fm ≤ 63) (hKS : KS kf keyCount_a0 (PS Q G rk l0)) (hl0 : l0 ≤ bt * 64 + fm) (hQ : ∀ m : Int, Q m → m / 2048 ≠ rk) (hG : G (bt * 64 + fm)) : Met l yX4_offer wsX4_offer ({ frames := 0, cells := 0, slots := 0, locals := 0 }) (va_Pc [.ref a0, .int (kz cs), .int (kz rk), .int (kz bt), .int (kz fm)] (fun U => U.heap = Hp ∧ jK (dC, dI) ca U ∧ jv (dC, dI) ca A X U.heap ∧ va_at (dC, dI) vwCl (a0, .inr (4, [.long countedUncut_a0, .long counted_a0, .int (kz left_a0), .ref told_a0, .int (kz toldCount_a0), .ref grown_a0, .ref keys_a0, .int (kz keyCount_a0), .ref tongue_a0, .ref lattice_a0])) U.heap ∧ va_at (dC, dI) vwCl (keys_a0, .inl (ca 20, 8, .inl kf)) U.heap)) (va_Qv (fun (u : (Nat → Int32) × Int) => KS u.1 u.2 (PS Q G rk (bt * 64 + fm + 1)) ∧ 0 ≤ u.2 ∧ u.2 ≤ 8) (fun (u : (Nat → Int32) × Int) U => jK (dC, dI) ca U ∧ jv (dC, dI) ca A X U.heap ∧ kfm X [4, 228] Hp U.heap ∧ va_at (dC, dI) vwCl (a0, .inr (4, [.long countedUncut_a0, .long counted_a0, .int (kz left_a0), .ref told_a0, .int (kz toldCount_a0), .ref grown_a0, .ref keys_a0, .int (kz u.2), .ref tongue_a0, .ref lattice_a0])) U.heap ∧ va_at (dC, dI) vwCl (keys_a0, .inl (ca 20, 8, .inl u.1)) U.heap) A) 0 0 A := by
  refine Met.ofW (cc := cX4_offer) (maxL := 7) (ret := none) (by decide) rfl ?_
  intro p e s m args below meth c s₁ B hml hv
  obtain ⟨rfl, hHp, ⟨hK, hN⟩, hI, co_a0, c_kf⟩ := hv
  have hx := B.exec
  have hb := B.bytes
  have hr := B.returns
  have hts := atoms_spec (ws := wsX4_offer) B.pre
  have hown : s.vm.findClass RX4 = some m.cls := findClass_of_methodNamed B.named
  have hL39 := hts (.fieldLink RX4 39 "JoinBench$Parter" "keyCount" "I") (by decide +kernel)
  have hL35 := hts (.fieldLink RX4 35 "JoinBench$Parter" "keys" "[I") (by decide +kernel)
  have hinX4 : ∀ w ∈ u_ws RX4 TX4 10, w ∈ wsX4_offer := by decide +kernel
  obtain ⟨H, hH⟩ : ∃ H : Heap, H = s.heap := ⟨_, rfl⟩
  have hS : va_S A s.heap H [] := by rw [hH]; exact va_S.rf
  have hF : kfm X [4, 228] Hp H := by rw [hH, hHp]; exact fm_rf _ _ _
  rw [← hH] at hI co_a0 c_kf ⊢
  clear hH
  have k_kf := ok20_full (X := jk X) (a := keys_a0) (n := 8) kf
  have hl := lv_entry ([.ref a0, .int (kz cs), .int (kz rk), .int (kz bt), .int (kz fm)]) (n := 7) (Nat.le_of_ble_eq_true rfl)
  rw [lg_entry_eq]
  generalize (lg_sl ([.ref a0, .int (kz cs), .int (kz rk), .int (kz bt), .int (kz fm)]) ++ List.replicate (7 - (lg_sl ([.ref a0, .int (kz cs), .int (kz rk), .int (kz bt), .int (kz fm)])).length) Slot.unset).toArray = ls at hl ⊢
  have hl : lv_has ls 7 [(0, .ref a0), (1, .int (kz cs)), (2, .int (kz rk)), (3, .int (kz bt)), (4, .int (kz fm))] := hl
  refine lv_iload_n hx hb dX4_offer_0 rfl (lv_at hl 1 rfl) ?_
  refine lv_ldc (own := RX4) (v := kz 1048576) hx hb hown (hts (.constant RX4 200 (kz 1048576)) (by decide +kernel)) dX4_offer_1 ?_
  refine iz_lt (tgt := 7) hx hb dX4_offer_3 (by decide) (by unfold rg2; omega) (fun br_1 => ?_) (fun br_1 => ?_)
  · refine lv_iload_n hx hb dX4_offer_7 rfl (lv_at hl 1 rfl) ?_
    refine lv_iconst (v := kz 3) hx hb dX4_offer_8 rfl ?_
    refine lv_ishl hx hb dX4_offer_9 ?_
    refine iz_any (fun z_2 z_2a z_2b z_2e => ?_)
    refine lv_iload_n hx hb dX4_offer_10 rfl (lv_at hl 2 rfl) ?_
    refine lv_ior hx hb dX4_offer_11 ?_
    refine iz_any (fun z_3 z_3a z_3b z_3e => ?_)
    refine lv_iconst (v := kz 5) hx hb dX4_offer_12 rfl ?_
    refine lv_ishl hx hb dX4_offer_13 ?_
    refine iz_any (fun z_4 z_4a z_4b z_4e => ?_)
    refine lv_iload_n hx hb dX4_offer_14 rfl (lv_at hl 3 rfl) ?_
    refine lv_ior hx hb dX4_offer_15 ?_
    refine iz_any (fun z_5 z_5a z_5b z_5e => ?_)
    refine lv_bipush (v := kz 6) hx hb dX4_offer_16 (by decide) ?_
    refine lv_ishl hx hb dX4_offer_18 ?_
    refine iz_any (fun z_6 z_6a z_6b z_6e => ?_)
    refine lv_iload hx hb dX4_offer_19 (lv_at hl 4 rfl) ?_
    refine lv_ior hx hb dX4_offer_21 ?_
    refine iz_any (fun z_7 z_7a z_7b z_7e => ?_)
    refine lv_istore (lv' := [(5, .int (kz z_7)), (0, .ref a0), (1, .int (kz cs)), (2, .int (kz rk)), (3, .int (kz bt)), (4, .int (kz fm))]) hx hb dX4_offer_22 hl (by decide) rfl (fun ls hl => ?_)
    have hkm := key_mod (c := cs) (r := rk) (b := bt) (f := fm) (by omega) (by omega) (by omega) z_2e z_3e z_4e z_5e z_6e z_7e
    have hm0 : (rk * 2048 + bt * 64 + fm) = rk * 2048 + (bt * 64 + fm) := by omega
    have hne : ∀ j : Int, 0 ≤ j → j < keyCount_a0 → ge1 kf j % 16384 ≠ (rk * 2048 + bt * 64 + fm) := fun j h1 h2 => PS_ne (hKS.1 j h1 h2) hQ hl0 (by omega) hm0
    have hK2 : KS kf keyCount_a0 (PS Q G rk (bt * 64 + fm + 1)) := KS_mono hKS (fun m h => PS_mono h (by omega))
    have hp0 : PS Q G rk (bt * 64 + fm + 1) (rk * 2048 + bt * 64 + fm) := PS_new (by omega) hm0 hG
    refine lv_aload_n hx hb dX4_offer_24 rfl (lv_at hl 1 rfl) ?_
    refine iz_get (D := (dC, dI)) (ci := 4) (v := .int (kz keyCount_a0)) (C := RX4) (T := TX4) (N := 10) hx hb hts hinX4 hown hK co_a0 rfl 7 (by decide) hL39 (fun _ h9 => h9) rfl dX4_offer_25 ?_
    refine lv_istore (lv' := [(6, .int (kz keyCount_a0)), (5, .int (kz z_7)), (0, .ref a0), (1, .int (kz cs)), (2, .int (kz rk)), (3, .int (kz bt)), (4, .int (kz fm))]) hx hb dX4_offer_28 hl (by decide) rfl (fun ls hl => ?_)
    refine lv_aload_n hx hb dX4_offer_30 rfl (lv_at hl 2 rfl) ?_
    refine iz_get (D := (dC, dI)) (ci := 4) (v := .int (kz keyCount_a0)) (C := RX4) (T := TX4) (N := 10) hx hb hts hinX4 hown hK co_a0 rfl 7 (by decide) hL39 (fun _ h9 => h9) rfl dX4_offer_31 ?_
    refine lv_bipush (v := kz 8) hx hb dX4_offer_34 (by decide) ?_
    refine iz_ge (tgt := 52) hx hb dX4_offer_36 (by decide) (by unfold rg2; omega) (fun br_8 => ?_) (fun br_8 => ?_)
    · refine lv_aload_n hx hb dX4_offer_52 rfl (lv_at hl 2 rfl) ?_
      refine iz_get (D := (dC, dI)) (ci := 4) (v := .ref keys_a0) (C := RX4) (T := TX4) (N := 10) hx hb hts hinX4 hown hK co_a0 rfl 6 (by decide) hL35 (fun _ h9 => h9) rfl dX4_offer_53 ?_
      refine lv_bipush (v := kz 7) hx hb dX4_offer_56 (by decide) ?_
      refine iz_iald hx hb hK 0 c_kf rfl (by omega) (by decide) dX4_offer_58 ?_
      obtain ⟨v_9a, v_9b, -⟩ := k_kf 7 (by omega)
      obtain ⟨v_9, ev_9⟩ : ∃ z9 : Int, ge1 kf 7 = z9 := ⟨_, rfl⟩
      rw [ev_9] at v_9a v_9b ⊢
      refine lv_iload hx hb dX4_offer_59 (lv_at hl 1 rfl) ?_
      refine iz_le (tgt := 71) hx hb dX4_offer_61 (by decide) (by unfold rg2; omega) (fun br_10 => ?_) (fun br_10 => ?_)
      · exact W.vret hx hb hr (fun t9 ht hW => ⟨⟨(kf, keyCount_a0), rfl, ⟨KS_mono hKS (fun m h => PS_mono h (by omega)), by omega, by omega⟩, jK_warm hW ⟨hK, hN⟩, by rw [ht]; exact ⟨hI, hF, co_a0, c_kf⟩⟩, hS.F ht⟩) hS.2.2 dX4_offer_71
      · refine lv_bipush (v := kz 7) hx hb dX4_offer_64 (by decide) ?_
        refine lv_istore (lv' := [(6, .int (kz 7)), (5, .int (kz z_7)), (0, .ref a0), (1, .int (kz cs)), (2, .int (kz rk)), (3, .int (kz bt)), (4, .int (kz fm))]) hx hb dX4_offer_66 hl (by decide) rfl (fun ls hl => ?_)
        refine lv_goto (tgt := 72) hx hb dX4_offer_68 (by decide) ?_
        refine iz_loopA1 (α := Nat → Int32) (P := fun N9 u9 at9 H locs ls => (0 ≤ at9) ∧ (at9 < keyCount_a0) ∧ (KH u9 keyCount_a0 at9 (rk * 2048 + bt * 64 + fm) (PS Q G rk (bt * 64 + fm + 1))) ∧ at9 ≤ (N9 : Int) ∧ lv_has ls 7 [(6, .int (kz at9)), (5, .int (kz z_7)), (0, .ref a0), (1, .int (kz cs)), (2, .int (kz rk)), (3, .int (kz bt)), (4, .int (kz fm))] ∧ jv (dC, dI) ca A X H ∧ va_S A s.heap H locs ∧ kfm X [4, 228] Hp H ∧ va_at (dC, dI) vwCl (a0, .inr (4, [.long countedUncut_a0, .long counted_a0, .int (kz left_a0), .ref told_a0, .int (kz toldCount_a0), .ref grown_a0, .ref keys_a0, .int (kz keyCount_a0), .ref tongue_a0, .ref lattice_a0])) H ∧ va_at (dC, dI) vwCl (keys_a0, .inl (ca 20, 8, .inl u9)) H) 100000 kf (x0 := 7) ?_ ⟨by omega, by omega, KH_in hK2 hne (fun j h1 h2 h3 => by omega), by omega, lv_sub hl [0, 1, 2, 3, 4, 5, 6] rfl, hI, hS, hF, co_a0, c_kf⟩
        intro n_11 kf_n_11 at9 H locs ls ⟨n_11f0, n_11f1, n_11f2, n_11f3, hl, hI, hS, hF, co_a0, c_kf_n_11⟩ ihn_11
        have k_kf_n_11 := ok20_full (X := jk X) (a := keys_a0) (n := 8) kf_n_11
        have n_11f0 : 0 ≤ at9 := n_11f0
        have n_11f1 : at9 < keyCount_a0 := n_11f1
        have n_11f2 : KH kf_n_11 keyCount_a0 at9 (rk * 2048 + bt * 64 + fm) (PS Q G rk (bt * 64 + fm + 1)) := n_11f2
        refine lv_iload hx hb dX4_offer_72 (lv_at hl 0 rfl) ?_
        refine iz_lez (tgt := 113) hx hb dX4_offer_74 (by decide) (by unfold rg2; omega) (fun br_12 => ?_) (fun br_12 => ?_)
        · refine lv_aload_n hx hb dX4_offer_113 rfl (lv_at hl 2 rfl) ?_
          refine iz_get (D := (dC, dI)) (ci := 4) (v := .ref keys_a0) (C := RX4) (T := TX4) (N := 10) hx hb hts hinX4 hown hK co_a0 rfl 6 (by decide) hL35 (fun _ h9 => h9) rfl dX4_offer_114 ?_
          refine lv_iload hx hb dX4_offer_117 (lv_at hl 0 rfl) ?_
          refine lv_iload hx hb dX4_offer_119 (lv_at hl 1 rfl) ?_
          refine iz_iast hx hb hK 0 c_kf_n_11 hS (jv_A hI g_keys_a0 (show (20 : Nat) ≠ 0 by decide)) rfl (by omega) (by decide) dX4_offer_121 (fun H locs c9 oq hS => ?_)
          have hI := jv_s20 hI g_keys_a0 k_kf_n_11 c9 oq (by omega) (by omega) (by decide)
          have hF := fm_put hF g_keys_a0 (show (228 : Nat) ∈ [4, 228] by decide) oq
          have co_a0 := co_a0.kept (oq _ (kn_ne g_a0 g_keys_a0 (show (4 : Nat) ≠ 228 by decide)))
          obtain ⟨kf_13, ekf_13⟩ : ∃ g9 : Nat → Int32, g9 = upd kf_n_11 (Int.toNat at9) (kz z_7) := ⟨_, rfl⟩
          rw [← ekf_13] at c9
          have ukf_13 : ∀ w : Int, 0 ≤ w → ge1 kf_13 w = if w = at9 then z_7 else ge1 kf_n_11 w := fun w hw => by rw [ekf_13]; exact ge1_upd kf_n_11 (by omega) hw (by omega) (by omega)
          have c_kf_13 := c9
          have k_kf_13 := ok20_full (X := jk X) (a := keys_a0) (n := 8) kf_13
          clear oq c9
          exact W.vret hx hb hr (fun t9 ht hW => ⟨⟨(kf_13, keyCount_a0), rfl, ⟨KH_end n_11f2 hkm hp0 ukf_13, by omega, by omega⟩, jK_warm hW ⟨hK, hN⟩, by rw [ht]; exact ⟨hI, hF, co_a0, c_kf_13⟩⟩, hS.F ht⟩) hS.2.2 dX4_offer_122
        · refine lv_aload_n hx hb dX4_offer_77 rfl (lv_at hl 2 rfl) ?_
          refine iz_get (D := (dC, dI)) (ci := 4) (v := .ref keys_a0) (C := RX4) (T := TX4) (N := 10) hx hb hts hinX4 hown hK co_a0 rfl 6 (by decide) hL35 (fun _ h9 => h9) rfl dX4_offer_78 ?_
          refine lv_iload hx hb dX4_offer_81 (lv_at hl 0 rfl) ?_
          refine lv_iconst (v := kz 1) hx hb dX4_offer_83 rfl ?_
          refine iz_isub hx hb dX4_offer_84 ?_
          refine iz_iald hx hb hK 0 c_kf_n_11 rfl (by omega) (by decide) dX4_offer_85 ?_
          obtain ⟨v_14a, v_14b, -⟩ := k_kf_n_11 (at9 - 1) (by omega)
          obtain ⟨v_14, ev_14⟩ : ∃ z9 : Int, ge1 kf_n_11 (at9 - 1) = z9 := ⟨_, rfl⟩
          rw [ev_14] at v_14a v_14b ⊢
          refine lv_iload hx hb dX4_offer_86 (lv_at hl 1 rfl) ?_
          refine iz_le (tgt := 113) hx hb dX4_offer_88 (by decide) (by unfold rg2; omega) (fun br_15 => ?_) (fun br_15 => ?_)
          · refine lv_aload_n hx hb dX4_offer_113 rfl (lv_at hl 2 rfl) ?_
            refine iz_get (D := (dC, dI)) (ci := 4) (v := .ref keys_a0) (C := RX4) (T := TX4) (N := 10) hx hb hts hinX4 hown hK co_a0 rfl 6 (by decide) hL35 (fun _ h9 => h9) rfl dX4_offer_114 ?_
            refine lv_iload hx hb dX4_offer_117 (lv_at hl 0 rfl) ?_
            refine lv_iload hx hb dX4_offer_119 (lv_at hl 1 rfl) ?_
            refine iz_iast hx hb hK 0 c_kf_n_11 hS (jv_A hI g_keys_a0 (show (20 : Nat) ≠ 0 by decide)) rfl (by omega) (by decide) dX4_offer_121 (fun H locs c9 oq hS => ?_)
            have hI := jv_s20 hI g_keys_a0 k_kf_n_11 c9 oq (by omega) (by omega) (by decide)
            have hF := fm_put hF g_keys_a0 (show (228 : Nat) ∈ [4, 228] by decide) oq
            have co_a0 := co_a0.kept (oq _ (kn_ne g_a0 g_keys_a0 (show (4 : Nat) ≠ 228 by decide)))
            obtain ⟨kf_16, ekf_16⟩ : ∃ g9 : Nat → Int32, g9 = upd kf_n_11 (Int.toNat at9) (kz z_7) := ⟨_, rfl⟩
            rw [← ekf_16] at c9
            have ukf_16 : ∀ w : Int, 0 ≤ w → ge1 kf_16 w = if w = at9 then z_7 else ge1 kf_n_11 w := fun w hw => by rw [ekf_16]; exact ge1_upd kf_n_11 (by omega) hw (by omega) (by omega)
            have c_kf_16 := c9
            have k_kf_16 := ok20_full (X := jk X) (a := keys_a0) (n := 8) kf_16
            clear oq c9
            exact W.vret hx hb hr (fun t9 ht hW => ⟨⟨(kf_16, keyCount_a0), rfl, ⟨KH_end n_11f2 hkm hp0 ukf_16, by omega, by omega⟩, jK_warm hW ⟨hK, hN⟩, by rw [ht]; exact ⟨hI, hF, co_a0, c_kf_16⟩⟩, hS.F ht⟩) hS.2.2 dX4_offer_122
          · refine lv_aload_n hx hb dX4_offer_91 rfl (lv_at hl 2 rfl) ?_
            refine iz_get (D := (dC, dI)) (ci := 4) (v := .ref keys_a0) (C := RX4) (T := TX4) (N := 10) hx hb hts hinX4 hown hK co_a0 rfl 6 (by decide) hL35 (fun _ h9 => h9) rfl dX4_offer_92 ?_
            refine lv_iload hx hb dX4_offer_95 (lv_at hl 0 rfl) ?_
            refine lv_aload_n hx hb dX4_offer_97 rfl (lv_at hl 2 rfl) ?_
            refine iz_get (D := (dC, dI)) (ci := 4) (v := .ref keys_a0) (C := RX4) (T := TX4) (N := 10) hx hb hts hinX4 hown hK co_a0 rfl 6 (by decide) hL35 (fun _ h9 => h9) rfl dX4_offer_98 ?_
            refine lv_iload hx hb dX4_offer_101 (lv_at hl 0 rfl) ?_
            refine lv_iconst (v := kz 1) hx hb dX4_offer_103 rfl ?_
            refine iz_isub hx hb dX4_offer_104 ?_
            refine iz_iald hx hb hK 0 c_kf_n_11 rfl (by omega) (by decide) dX4_offer_105 ?_
            rw [ev_14]
            refine iz_iast hx hb hK 0 c_kf_n_11 hS (jv_A hI g_keys_a0 (show (20 : Nat) ≠ 0 by decide)) rfl (by omega) (by decide) dX4_offer_106 (fun H locs c9 oq hS => ?_)
            have hI := jv_s20 hI g_keys_a0 k_kf_n_11 c9 oq (by omega) (by omega) (by decide)
            have hF := fm_put hF g_keys_a0 (show (228 : Nat) ∈ [4, 228] by decide) oq
            have co_a0 := co_a0.kept (oq _ (kn_ne g_a0 g_keys_a0 (show (4 : Nat) ≠ 228 by decide)))
            obtain ⟨kf_17, ekf_17⟩ : ∃ g9 : Nat → Int32, g9 = upd kf_n_11 (Int.toNat at9) (kz v_14) := ⟨_, rfl⟩
            rw [← ekf_17] at c9
            have ukf_17 : ∀ w : Int, 0 ≤ w → ge1 kf_17 w = if w = at9 then v_14 else ge1 kf_n_11 w := fun w hw => by rw [ekf_17]; exact ge1_upd kf_n_11 (by omega) hw (by omega) (by omega)
            have c_kf_17 := c9
            have k_kf_17 := ok20_full (X := jk X) (a := keys_a0) (n := 8) kf_17
            clear oq c9
            refine lv_iinc (v := kz (at9 + (-1))) (lv' := [(6, .int (kz (at9 + (-1)))), (5, .int (kz z_7)), (0, .ref a0), (1, .int (kz cs)), (2, .int (kz rk)), (3, .int (kz bt)), (4, .int (kz fm))]) hx hb dX4_offer_107 hl (k := 0) rfl (kz_add at9 (-1)) (by decide) rfl (fun ls hl => ?_)
            refine lv_goto (tgt := 72) hx hb dX4_offer_110 (by decide) ?_
            exact ihn_11 (n_11 - 1) (by omega) kf_17 (at9 + (-1)) _ _ _ ⟨by omega, by omega, KH_step n_11f2 (by omega) (fun w hw => by rw [ev_14]; exact ukf_17 w hw), by omega, lv_sub hl [0, 1, 2, 3, 4, 5, 6] rfl, hI, hS, hF, co_a0, c_kf_17⟩
    · refine lv_aload_n hx hb dX4_offer_39 rfl (lv_at hl 2 rfl) ?_
      refine lv_dup hx hb dX4_offer_40 rfl ?_
      refine iz_get (D := (dC, dI)) (ci := 4) (v := .int (kz keyCount_a0)) (C := RX4) (T := TX4) (N := 10) hx hb hts hinX4 hown hK co_a0 rfl 7 (by decide) hL39 (fun _ h9 => h9) rfl dX4_offer_41 ?_
      refine lv_iconst (v := kz 1) hx hb dX4_offer_44 rfl ?_
      refine iz_iadd hx hb dX4_offer_45 ?_
      refine iz_put (D := (dC, dI)) (ci := 4) (v := .int (kz (keyCount_a0 + 1))) (ty := .int) (C := RX4) (T := TX4) (N := 10) hx hb hts hinX4 tyX4 tyX4_ok nmX4 hown hK co_a0 hS (jv_A hI g_a0 (show (30 : Nat) ≠ 0 by decide)) rfl 7 (by decide) hL39 (fun _ h9 => h9) rfl (by decide +kernel) rfl rfl (Nat.le_of_ble_eq_true rfl) dX4_offer_46 (fun H locs c9 oq hS => ?_)
      have hI := jv_set hI c9 oq (by rw [g_a0]; exact jv_c4 ⟨pp_a0, countedUncut_a0, counted_a0, left_a0, told_a0, toldCount_a0, grown_a0, keys_a0, (keyCount_a0 + 1), tongue_a0, lattice_a0, rfl, ⟨by omega, by omega⟩, g_told_a0, ⟨by omega, by omega⟩, g_grown_a0, g_keys_a0, ⟨by omega, by omega⟩, g_tongue_a0, g_lattice_a0, by omega, by omega⟩)
      have hF := fm_put hF g_a0 (show (4 : Nat) ∈ [4, 228] by decide) oq
      have c_kf := c_kf.kept (oq _ (kn_ne g_keys_a0 g_a0 (show (228 : Nat) ≠ 4 by decide)))
      have co_a0 := c9
      clear oq c9
      refine lv_goto (tgt := 72) hx hb dX4_offer_49 (by decide) ?_
      refine iz_loopA1 (α := Nat → Int32) (P := fun N9 u9 at9 H locs ls => (0 ≤ at9) ∧ (at9 < (keyCount_a0 + 1)) ∧ (KH u9 (keyCount_a0 + 1) at9 (rk * 2048 + bt * 64 + fm) (PS Q G rk (bt * 64 + fm + 1))) ∧ at9 ≤ (N9 : Int) ∧ lv_has ls 7 [(6, .int (kz at9)), (5, .int (kz z_7)), (0, .ref a0), (1, .int (kz cs)), (2, .int (kz rk)), (3, .int (kz bt)), (4, .int (kz fm))] ∧ jv (dC, dI) ca A X H ∧ va_S A s.heap H locs ∧ kfm X [4, 228] Hp H ∧ va_at (dC, dI) vwCl (a0, .inr (4, [.long countedUncut_a0, .long counted_a0, .int (kz left_a0), .ref told_a0, .int (kz toldCount_a0), .ref grown_a0, .ref keys_a0, .int (kz (keyCount_a0 + 1)), .ref tongue_a0, .ref lattice_a0])) H ∧ va_at (dC, dI) vwCl (keys_a0, .inl (ca 20, 8, .inl u9)) H) 100000 kf (x0 := keyCount_a0) ?_ ⟨by omega, by omega, KH_in hK2 hne (fun j h1 h2 h3 => by omega), by omega, lv_sub hl [0, 1, 2, 3, 4, 5, 6] rfl, hI, hS, hF, co_a0, c_kf⟩
      intro n_18 kf_n_18 at9 H locs ls ⟨n_18f0, n_18f1, n_18f2, n_18f3, hl, hI, hS, hF, co_a0, c_kf_n_18⟩ ihn_18
      have k_kf_n_18 := ok20_full (X := jk X) (a := keys_a0) (n := 8) kf_n_18
      have n_18f0 : 0 ≤ at9 := n_18f0
      have n_18f1 : at9 < (keyCount_a0 + 1) := n_18f1
      have n_18f2 : KH kf_n_18 (keyCount_a0 + 1) at9 (rk * 2048 + bt * 64 + fm) (PS Q G rk (bt * 64 + fm + 1)) := n_18f2
      refine lv_iload hx hb dX4_offer_72 (lv_at hl 0 rfl) ?_
      refine iz_lez (tgt := 113) hx hb dX4_offer_74 (by decide) (by unfold rg2; omega) (fun br_19 => ?_) (fun br_19 => ?_)
      · refine lv_aload_n hx hb dX4_offer_113 rfl (lv_at hl 2 rfl) ?_
        refine iz_get (D := (dC, dI)) (ci := 4) (v := .ref keys_a0) (C := RX4) (T := TX4) (N := 10) hx hb hts hinX4 hown hK co_a0 rfl 6 (by decide) hL35 (fun _ h9 => h9) rfl dX4_offer_114 ?_
        refine lv_iload hx hb dX4_offer_117 (lv_at hl 0 rfl) ?_
        refine lv_iload hx hb dX4_offer_119 (lv_at hl 1 rfl) ?_
        refine iz_iast hx hb hK 0 c_kf_n_18 hS (jv_A hI g_keys_a0 (show (20 : Nat) ≠ 0 by decide)) rfl (by omega) (by decide) dX4_offer_121 (fun H locs c9 oq hS => ?_)
        have hI := jv_s20 hI g_keys_a0 k_kf_n_18 c9 oq (by omega) (by omega) (by decide)
        have hF := fm_put hF g_keys_a0 (show (228 : Nat) ∈ [4, 228] by decide) oq
        have co_a0 := co_a0.kept (oq _ (kn_ne g_a0 g_keys_a0 (show (4 : Nat) ≠ 228 by decide)))
        obtain ⟨kf_20, ekf_20⟩ : ∃ g9 : Nat → Int32, g9 = upd kf_n_18 (Int.toNat at9) (kz z_7) := ⟨_, rfl⟩
        rw [← ekf_20] at c9
        have ukf_20 : ∀ w : Int, 0 ≤ w → ge1 kf_20 w = if w = at9 then z_7 else ge1 kf_n_18 w := fun w hw => by rw [ekf_20]; exact ge1_upd kf_n_18 (by omega) hw (by omega) (by omega)
        have c_kf_20 := c9
        have k_kf_20 := ok20_full (X := jk X) (a := keys_a0) (n := 8) kf_20
        clear oq c9
        exact W.vret hx hb hr (fun t9 ht hW => ⟨⟨(kf_20, (keyCount_a0 + 1)), rfl, ⟨KH_end n_18f2 hkm hp0 ukf_20, by omega, by omega⟩, jK_warm hW ⟨hK, hN⟩, by rw [ht]; exact ⟨hI, hF, co_a0, c_kf_20⟩⟩, hS.F ht⟩) hS.2.2 dX4_offer_122
      · refine lv_aload_n hx hb dX4_offer_77 rfl (lv_at hl 2 rfl) ?_
        refine iz_get (D := (dC, dI)) (ci := 4) (v := .ref keys_a0) (C := RX4) (T := TX4) (N := 10) hx hb hts hinX4 hown hK co_a0 rfl 6 (by decide) hL35 (fun _ h9 => h9) rfl dX4_offer_78 ?_
        refine lv_iload hx hb dX4_offer_81 (lv_at hl 0 rfl) ?_
        refine lv_iconst (v := kz 1) hx hb dX4_offer_83 rfl ?_
        refine iz_isub hx hb dX4_offer_84 ?_
        refine iz_iald hx hb hK 0 c_kf_n_18 rfl (by omega) (by decide) dX4_offer_85 ?_
        obtain ⟨v_21a, v_21b, -⟩ := k_kf_n_18 (at9 - 1) (by omega)
        obtain ⟨v_21, ev_21⟩ : ∃ z9 : Int, ge1 kf_n_18 (at9 - 1) = z9 := ⟨_, rfl⟩
        rw [ev_21] at v_21a v_21b ⊢
        refine lv_iload hx hb dX4_offer_86 (lv_at hl 1 rfl) ?_
        refine iz_le (tgt := 113) hx hb dX4_offer_88 (by decide) (by unfold rg2; omega) (fun br_22 => ?_) (fun br_22 => ?_)
        · refine lv_aload_n hx hb dX4_offer_113 rfl (lv_at hl 2 rfl) ?_
          refine iz_get (D := (dC, dI)) (ci := 4) (v := .ref keys_a0) (C := RX4) (T := TX4) (N := 10) hx hb hts hinX4 hown hK co_a0 rfl 6 (by decide) hL35 (fun _ h9 => h9) rfl dX4_offer_114 ?_
          refine lv_iload hx hb dX4_offer_117 (lv_at hl 0 rfl) ?_
          refine lv_iload hx hb dX4_offer_119 (lv_at hl 1 rfl) ?_
          refine iz_iast hx hb hK 0 c_kf_n_18 hS (jv_A hI g_keys_a0 (show (20 : Nat) ≠ 0 by decide)) rfl (by omega) (by decide) dX4_offer_121 (fun H locs c9 oq hS => ?_)
          have hI := jv_s20 hI g_keys_a0 k_kf_n_18 c9 oq (by omega) (by omega) (by decide)
          have hF := fm_put hF g_keys_a0 (show (228 : Nat) ∈ [4, 228] by decide) oq
          have co_a0 := co_a0.kept (oq _ (kn_ne g_a0 g_keys_a0 (show (4 : Nat) ≠ 228 by decide)))
          obtain ⟨kf_23, ekf_23⟩ : ∃ g9 : Nat → Int32, g9 = upd kf_n_18 (Int.toNat at9) (kz z_7) := ⟨_, rfl⟩
          rw [← ekf_23] at c9
          have ukf_23 : ∀ w : Int, 0 ≤ w → ge1 kf_23 w = if w = at9 then z_7 else ge1 kf_n_18 w := fun w hw => by rw [ekf_23]; exact ge1_upd kf_n_18 (by omega) hw (by omega) (by omega)
          have c_kf_23 := c9
          have k_kf_23 := ok20_full (X := jk X) (a := keys_a0) (n := 8) kf_23
          clear oq c9
          exact W.vret hx hb hr (fun t9 ht hW => ⟨⟨(kf_23, (keyCount_a0 + 1)), rfl, ⟨KH_end n_18f2 hkm hp0 ukf_23, by omega, by omega⟩, jK_warm hW ⟨hK, hN⟩, by rw [ht]; exact ⟨hI, hF, co_a0, c_kf_23⟩⟩, hS.F ht⟩) hS.2.2 dX4_offer_122
        · refine lv_aload_n hx hb dX4_offer_91 rfl (lv_at hl 2 rfl) ?_
          refine iz_get (D := (dC, dI)) (ci := 4) (v := .ref keys_a0) (C := RX4) (T := TX4) (N := 10) hx hb hts hinX4 hown hK co_a0 rfl 6 (by decide) hL35 (fun _ h9 => h9) rfl dX4_offer_92 ?_
          refine lv_iload hx hb dX4_offer_95 (lv_at hl 0 rfl) ?_
          refine lv_aload_n hx hb dX4_offer_97 rfl (lv_at hl 2 rfl) ?_
          refine iz_get (D := (dC, dI)) (ci := 4) (v := .ref keys_a0) (C := RX4) (T := TX4) (N := 10) hx hb hts hinX4 hown hK co_a0 rfl 6 (by decide) hL35 (fun _ h9 => h9) rfl dX4_offer_98 ?_
          refine lv_iload hx hb dX4_offer_101 (lv_at hl 0 rfl) ?_
          refine lv_iconst (v := kz 1) hx hb dX4_offer_103 rfl ?_
          refine iz_isub hx hb dX4_offer_104 ?_
          refine iz_iald hx hb hK 0 c_kf_n_18 rfl (by omega) (by decide) dX4_offer_105 ?_
          rw [ev_21]
          refine iz_iast hx hb hK 0 c_kf_n_18 hS (jv_A hI g_keys_a0 (show (20 : Nat) ≠ 0 by decide)) rfl (by omega) (by decide) dX4_offer_106 (fun H locs c9 oq hS => ?_)
          have hI := jv_s20 hI g_keys_a0 k_kf_n_18 c9 oq (by omega) (by omega) (by decide)
          have hF := fm_put hF g_keys_a0 (show (228 : Nat) ∈ [4, 228] by decide) oq
          have co_a0 := co_a0.kept (oq _ (kn_ne g_a0 g_keys_a0 (show (4 : Nat) ≠ 228 by decide)))
          obtain ⟨kf_24, ekf_24⟩ : ∃ g9 : Nat → Int32, g9 = upd kf_n_18 (Int.toNat at9) (kz v_21) := ⟨_, rfl⟩
          rw [← ekf_24] at c9
          have ukf_24 : ∀ w : Int, 0 ≤ w → ge1 kf_24 w = if w = at9 then v_21 else ge1 kf_n_18 w := fun w hw => by rw [ekf_24]; exact ge1_upd kf_n_18 (by omega) hw (by omega) (by omega)
          have c_kf_24 := c9
          have k_kf_24 := ok20_full (X := jk X) (a := keys_a0) (n := 8) kf_24
          clear oq c9
          refine lv_iinc (v := kz (at9 + (-1))) (lv' := [(6, .int (kz (at9 + (-1)))), (5, .int (kz z_7)), (0, .ref a0), (1, .int (kz cs)), (2, .int (kz rk)), (3, .int (kz bt)), (4, .int (kz fm))]) hx hb dX4_offer_107 hl (k := 0) rfl (kz_add at9 (-1)) (by decide) rfl (fun ls hl => ?_)
          refine lv_goto (tgt := 72) hx hb dX4_offer_110 (by decide) ?_
          exact ihn_18 (n_18 - 1) (by omega) kf_24 (at9 + (-1)) _ _ _ ⟨by omega, by omega, KH_step n_18f2 (by omega) (fun w hw => by rw [ev_21]; exact ukf_24 w hw), by omega, lv_sub hl [0, 1, 2, 3, 4, 5, 6] rfl, hI, hS, hF, co_a0, c_kf_24⟩
  · exact W.vret hx hb hr (fun t9 ht hW => ⟨⟨(kf, keyCount_a0), rfl, ⟨KS_mono hKS (fun m h => PS_mono h (by omega)), by omega, by omega⟩, jK_warm hW ⟨hK, hN⟩, by rw [ht]; exact ⟨hI, hF, co_a0, c_kf⟩⟩, hS.F ht⟩) hS.2.2 dX4_offer_6
set_option maxHeartbeats 4000000 in
set_option maxRecDepth 100000 in
/-- X4_rankOf -/
theorem c_rankOf (l : Launch) (dC : Nat → ClassId) (dI : Nat → Nat → Nat) (ca : Nat → ClassId) (A : Nat → Prop) (X : jG) (hU : jU X) (a0 : Nat) (ky : Int) (pp_a0 : Int) (countedUncut_a0 : Int64) (counted_a0 : Int64) (left_a0 : Int) (told_a0 : Nat) (toldCount_a0 : Int) (grown_a0 : Nat) (keys_a0 : Nat) (keyCount_a0 : Int) (tongue_a0 : Nat) (lattice_a0 : Nat) (kf : Nat → Int32) (g_a0 : X.1 a0 = (4, 30, 0, 0, 0)) (left_a0i : 0 ≤ left_a0 ∧ left_a0 ≤ 1) (g_told_a0 : X.1 told_a0 = (226, 26, 8, pp_a0, 0)) (toldCount_a0i : 0 ≤ toldCount_a0 ∧ toldCount_a0 ≤ 8) (g_grown_a0 : X.1 grown_a0 = (226, 26, 8, 1 - pp_a0, 0)) (g_keys_a0 : X.1 keys_a0 = (228, 20, 8, -2147483648, 2147483647)) (keyCount_a0i : 0 ≤ keyCount_a0 ∧ keyCount_a0 ≤ 8) (g_tongue_a0 : X.1 tongue_a0 = (9, 30, 0, 0, 0)) (g_lattice_a0 : X.1 lattice_a0 = (3, 30, 0, 0, 0)) (x_a0_0 : 0 ≤ pp_a0) (x_a0_1 : pp_a0 ≤ 1) (kyr : -2147483648 ≤ ky ∧ ky ≤ 2147483647) : Met l yX4_rankOf wsX4_rankOf ({ frames := 0, cells := 0, slots := 0, locals := 0 }) (va_Pc [.ref a0, .int (kz ky)] (fun U => jK (dC, dI) ca U ∧ jv (dC, dI) ca A X U.heap ∧ va_at (dC, dI) vwCl (a0, .inr (4, [.long countedUncut_a0, .long counted_a0, .int (kz left_a0), .ref told_a0, .int (kz toldCount_a0), .ref grown_a0, .ref keys_a0, .int (kz keyCount_a0), .ref tongue_a0, .ref lattice_a0])) U.heap ∧ va_at (dC, dI) vwCl (keys_a0, .inl (ca 20, 8, .inl kf)) U.heap)) (vp_Si (fun r => r = kz (kcnt kf (ky % 16384) keyCount_a0.toNat))) 0 0 (fun _ => False) := by
  refine Met.ofW (cc := cX4_rankOf) (maxL := 5) (ret := (some .int)) (by decide) rfl ?_
  intro p e s m args below meth c s₁ B hml hv
  obtain ⟨rfl, ⟨hK, hN⟩, hI, co_a0, c_kf⟩ := hv
  have hx := B.exec
  have hb := B.bytes
  have hr := B.returns
  have hts := atoms_spec (ws := wsX4_rankOf) B.pre
  have hown : s.vm.findClass RX4 = some m.cls := findClass_of_methodNamed B.named
  have hL39 := hts (.fieldLink RX4 39 "JoinBench$Parter" "keyCount" "I") (by decide +kernel)
  have hL35 := hts (.fieldLink RX4 35 "JoinBench$Parter" "keys" "[I") (by decide +kernel)
  have hinX4 : ∀ w ∈ u_ws RX4 TX4 10, w ∈ wsX4_rankOf := by decide +kernel
  have k_kf := ok20_full (X := jk X) (a := keys_a0) (n := 8) kf
  have hl := lv_entry ([.ref a0, .int (kz ky)]) (n := 5) (Nat.le_of_ble_eq_true rfl)
  rw [lg_entry_eq]
  generalize (lg_sl ([.ref a0, .int (kz ky)]) ++ List.replicate (5 - (lg_sl ([.ref a0, .int (kz ky)])).length) Slot.unset).toArray = ls at hl ⊢
  have hl : lv_has ls 5 [(0, .ref a0), (1, .int (kz ky))] := hl
  refine lv_sipush (v := kz 16383) hx hb dX4_rankOf_0 (by decide) ?_
  refine lv_istore_n (lv' := [(2, .int (kz 16383)), (0, .ref a0), (1, .int (kz ky))]) hx hb dX4_rankOf_3 rfl hl (by decide) rfl (fun ls hl => ?_)
  refine lv_iconst (v := kz 0) hx hb dX4_rankOf_4 rfl ?_
  refine lv_istore_n (lv' := [(3, .int (kz 0)), (2, .int (kz 16383)), (0, .ref a0), (1, .int (kz ky))]) hx hb dX4_rankOf_5 rfl hl (by decide) rfl (fun ls hl => ?_)
  refine lv_iconst (v := kz 0) hx hb dX4_rankOf_6 rfl ?_
  refine lv_istore (lv' := [(4, .int (kz 0)), (3, .int (kz 0)), (2, .int (kz 16383)), (0, .ref a0), (1, .int (kz ky))]) hx hb dX4_rankOf_7 hl (by decide) rfl (fun ls hl => ?_)
  refine iz_loopS2 (P := fun N9 rn k ls => (0 ≤ k) ∧ (k ≤ keyCount_a0) ∧ (rn = kcnt kf (ky % 16384) k.toNat) ∧ (0 ≤ rn) ∧ (rn ≤ k) ∧ 8 - k ≤ (N9 : Int) ∧ lv_has ls 5 [(4, .int (kz k)), (3, .int (kz rn)), (2, .int (kz 16383)), (0, .ref a0), (1, .int (kz ky))]) 100000 (x0 := 0) (x1 := 0) ?_ ⟨by omega, by omega, rfl, by omega, by omega, by omega, lv_sub hl [0, 1, 2, 3, 4] rfl⟩
  intro n_1 rn k ls ⟨n_1f0, n_1f1, n_1f2, n_1f3, n_1f4, n_1f5, hl⟩ ihn_1
  refine lv_iload hx hb dX4_rankOf_9 (lv_at hl 0 rfl) ?_
  refine lv_aload_n hx hb dX4_rankOf_11 rfl (lv_at hl 3 rfl) ?_
  refine iz_get (D := (dC, dI)) (ci := 4) (v := .int (kz keyCount_a0)) (C := RX4) (T := TX4) (N := 10) hx hb hts hinX4 hown hK co_a0 rfl 7 (by decide) hL39 (fun _ h9 => h9) rfl dX4_rankOf_12 ?_
  refine iz_ge (tgt := 42) hx hb dX4_rankOf_15 (by decide) (by unfold rg2; omega) (fun br_2 => ?_) (fun br_2 => ?_)
  · refine lv_iload_n hx hb dX4_rankOf_42 rfl (lv_at hl 1 rfl) ?_
    exact W.iret (v := kz rn) hx hb hr (fun t9 ht hW => ⟨kz rn, rfl, by rw [n_1f2, show k = keyCount_a0 by omega], ht⟩) (fun q h => absurd h List.not_mem_nil) dX4_rankOf_43
  · refine lv_aload_n hx hb dX4_rankOf_18 rfl (lv_at hl 3 rfl) ?_
    refine iz_get (D := (dC, dI)) (ci := 4) (v := .ref keys_a0) (C := RX4) (T := TX4) (N := 10) hx hb hts hinX4 hown hK co_a0 rfl 6 (by decide) hL35 (fun _ h9 => h9) rfl dX4_rankOf_19 ?_
    refine lv_iload hx hb dX4_rankOf_22 (lv_at hl 0 rfl) ?_
    refine iz_iald hx hb hK 0 c_kf rfl (by omega) (by decide) dX4_rankOf_24 ?_
    obtain ⟨v_3a, v_3b, -⟩ := k_kf k (by omega)
    obtain ⟨v_3, ev_3⟩ : ∃ z9 : Int, ge1 kf k = z9 := ⟨_, rfl⟩
    rw [ev_3] at v_3a v_3b ⊢
    refine lv_iload_n hx hb dX4_rankOf_25 rfl (lv_at hl 2 rfl) ?_
    refine iz_iand hx hb dX4_rankOf_26 (by decide) (fun z_4 z_4a z_4b z_4e => ?_)
    refine lv_iload_n hx hb dX4_rankOf_27 rfl (lv_at hl 4 rfl) ?_
    refine lv_iload_n hx hb dX4_rankOf_28 rfl (lv_at hl 2 rfl) ?_
    refine iz_iand hx hb dX4_rankOf_29 (by decide) (fun z_5 z_5a z_5b z_5e => ?_)
    have z_4m := and_mod (k := 14) (by decide) (by decide) z_4e (by omega)
    have z_5m := and_mod (k := 14) (by decide) (by decide) z_5e (by omega)
    refine iz_ge (tgt := 36) hx hb dX4_rankOf_30 (by decide) (by unfold rg2; omega) (fun br_6 => ?_) (fun br_6 => ?_)
    · refine lv_iinc (v := kz (k + 1)) (lv' := [(4, .int (kz (k + 1))), (3, .int (kz rn)), (2, .int (kz 16383)), (0, .ref a0), (1, .int (kz ky))]) hx hb dX4_rankOf_36 hl (k := 0) rfl (kz_add k 1) (by decide) rfl (fun ls hl => ?_)
      refine lv_goto (tgt := 9) hx hb dX4_rankOf_39 (by decide) ?_
      exact ihn_1 (n_1 - 1) (by omega) rn (k + 1) _ ⟨by omega, by omega, by rw [kcnt_s _ _ _ (by omega), if_neg (by omega), ← n_1f2]; omega, by omega, by omega, by omega, lv_sub hl [0, 1, 2, 3, 4] rfl⟩
    · refine lv_iinc (v := kz (rn + 1)) (lv' := [(3, .int (kz (rn + 1))), (4, .int (kz k)), (2, .int (kz 16383)), (0, .ref a0), (1, .int (kz ky))]) hx hb dX4_rankOf_33 hl (k := 1) rfl (kz_add rn 1) (by decide) rfl (fun ls hl => ?_)
      refine lv_iinc (v := kz (k + 1)) (lv' := [(4, .int (kz (k + 1))), (3, .int (kz (rn + 1))), (2, .int (kz 16383)), (0, .ref a0), (1, .int (kz ky))]) hx hb dX4_rankOf_36 hl (k := 1) rfl (kz_add k 1) (by decide) rfl (fun ls hl => ?_)
      refine lv_goto (tgt := 9) hx hb dX4_rankOf_39 (by decide) ?_
      exact ihn_1 (n_1 - 1) (by omega) (rn + 1) (k + 1) _ ⟨by omega, by omega, by rw [kcnt_s _ _ _ (by omega), if_pos (by omega), ← n_1f2], by omega, by omega, by omega, lv_sub hl [0, 1, 2, 3, 4] rfl⟩
