set_option maxHeartbeats 8000000 in
set_option maxRecDepth 100000 in
/-- THE LAW, from its entry -/
theorem whole_start {p : Program} {e : Env} {s : State} {m : MethodId} {below : List Frame} {meth : Method} {c : Code} (l : Launch) {b L : Nat} {xs : Nat → Int32} (hL : L ≤ 6) (C0 : lw_At p s m meth c b L xs) : W p l e room_1 s m #[Value.ref b] below meth c s.heap [] 0 0 (lw_Z below #[Value.ref b] s) (entryFrame m ([Value.ref b] : List Value).toArray 4) := by
  have C1 := C0
  obtain ⟨hx, hb, hr, hml, hown, hts0, hX, hbl, hlocks, hgv⟩ := C0
  have hb : c.code = cL_law := hb
  have hown : s.vm.findClass RL = some m.cls := hown
  have hts : ∀ w ∈ wsL_law, w.before #[Value.ref b] s = true := fun w h => hts0 w (wsL_law_in w h)
  have hA : ∀ q : Nat, s.heap.size ≤ q → (fun q : Nat => s.heap.size ≤ q) q := fun _ h => h
  have hbA : ¬ (fun q : Nat => s.heap.size ≤ q) b := Nat.not_le.mpr hbl
  obtain ⟨cX0, iX0, hKnX0⟩ := u_known (C := RX0) (T := TX0) (N := 3) (n := 3) hts0 inX0 (hts0 (.instantiable RX0 3) (by decide +kernel))
  obtain ⟨cX1, iX1, hKnX1⟩ := u_known (C := RX1) (T := TX1) (N := 6) (n := 6) hts0 inX1 (hts0 (.instantiable RX1 6) (by decide +kernel))
  obtain ⟨cX2, iX2, hKnX2⟩ := u_known (C := RX2) (T := TX2) (N := 8) (n := 8) hts0 inX2 (hts0 (.instantiable RX2 8) (by decide +kernel))
  obtain ⟨cX3, iX3, hKnX3⟩ := u_known (C := RX3) (T := TX3) (N := 11) (n := 11) hts0 inX3 (hts0 (.instantiable RX3 11) (by decide +kernel))
  obtain ⟨cX4, iX4, hKnX4⟩ := u_known (C := RX4) (T := TX4) (N := 10) (n := 10) hts0 inX4 (hts0 (.instantiable RX4 10) (by decide +kernel))
  obtain ⟨cX5, iX5, hKnX5⟩ := u_known (C := RX5) (T := TX5) (N := 6) (n := 6) hts0 inX5 (hts0 (.instantiable RX5 6) (by decide +kernel))
  obtain ⟨cX6, iX6, hKnX6⟩ := u_known (C := RX6) (T := TX6) (N := 4) (n := 4) hts0 inX6 (hts0 (.instantiable RX6 4) (by decide +kernel))
  obtain ⟨cX7, iX7, hKnX7⟩ := u_known (C := RX7) (T := TX7) (N := 9) (n := 9) hts0 inX7 (hts0 (.instantiable RX7 9) (by decide +kernel))
  obtain ⟨cX8, iX8, hKnX8⟩ := u_known (C := RX8) (T := TX8) (N := 2) (n := 2) hts0 inX8 (hts0 (.instantiable RX8 2) (by decide +kernel))
  obtain ⟨cX9, iX9, hKnX9⟩ := u_known (C := RX9) (T := TX9) (N := 5) (n := 5) hts0 inX9 (hts0 (.instantiable RX9 5) (by decide +kernel))
  obtain ⟨cX10, iX10, hKnX10⟩ := u_known (C := RX10) (T := TX10) (N := 2) (n := 2) hts0 inX10 (hts0 (.instantiable RX10 2) (by decide +kernel))
  obtain ⟨cX11, iX11, hKnX11⟩ := u_known (C := RX11) (T := TX11) (N := 7) (n := 7) hts0 inX11 (hts0 (.instantiable RX11 7) (by decide +kernel))
  obtain ⟨cX12, iX12, hKnX12⟩ := u_known (C := RX12) (T := TX12) (N := 49) (n := 49) hts0 inX12 (hts0 (.instantiable RX12 49) (by decide +kernel))
  obtain ⟨dC, dI, hKc⟩ : ∃ (dC : Nat → ClassId) (dI : Nat → Nat → Nat), ∀ (k : Nat) (q : vw_C), vwCl[k]? = some q → u_Kn s q.1 q.2.1 q.2.2 (dC k) (dI k) := by
    refine ⟨fun k => [cX0, cX1, cX2, cX3, cX4, cX5, cX6, cX7, cX8, cX9, cX10, cX11, cX12].getD k cX0, fun k => [iX0, iX1, iX2, iX3, iX4, iX5, iX6, iX7, iX8, iX9, iX10, iX11, iX12].getD k iX0, ?_⟩
    intro k q hq
    match k, hq with
    | 0, hq => cases hq; exact hKnX0
    | 1, hq => cases hq; exact hKnX1
    | 2, hq => cases hq; exact hKnX2
    | 3, hq => cases hq; exact hKnX3
    | 4, hq => cases hq; exact hKnX4
    | 5, hq => cases hq; exact hKnX5
    | 6, hq => cases hq; exact hKnX6
    | 7, hq => cases hq; exact hKnX7
    | 8, hq => cases hq; exact hKnX8
    | 9, hq => cases hq; exact hKnX9
    | 10, hq => cases hq; exact hKnX10
    | 11, hq => cases hq; exact hKnX11
    | 12, hq => cases hq; exact hKnX12
    | k + 13, hq => exact absurd hq (by simp [vwCl])
  have hS : va_S (fun q : Nat => s.heap.size ≤ q) s.heap s.heap [] := va_S.rf
  have hK : va_K (dC, dI) vwCl [] s := ⟨hKc, fun k q h => by simp at h⟩
  have hP : va_P (dC, dI) vwCl [] s.heap := fun k q h => by simp at h
  have hD : va_D (fun q : Nat => s.heap.size ≤ q) [] := ⟨fun i j p q h => by simp at h, fun k q h => by simp at h⟩
  have hAOX2 : va_AO RX2 s := va_AO.of (hts0 (.arrayOver (.object RX2)) (by decide +kernel))
  have hAOX7 : va_AO RX7 s := va_AO.of (hts0 (.arrayOver (.object RX7)) (by decide +kernel))
  have hAOA : mn_AO .int s := mn_AO_of (hts0 (.arrayOver (.array .int)) (by decide +kernel))
  have hNX6_11 : va_Nw (.methodLinkNest RX6 11 yX0_init RX11) s := va_Nw.of rfl (hts0 (.methodLinkNest RX6 11 yX0_init RX11) (by decide +kernel))
  have hNX11_11 : va_Nw (.methodLinkNest RX11 11 yX8_init RX11) s := va_Nw.of rfl (hts0 (.methodLinkNest RX11 11 yX8_init RX11) (by decide +kernel))
  have hNX11_18 : va_Nw (.methodLinkNest RX11 18 yX9_init RX11) s := va_Nw.of rfl (hts0 (.methodLinkNest RX11 18 yX9_init RX11) (by decide +kernel))
  have hNX11_25 : va_Nw (.methodLinkNest RX11 25 yX6_init RX11) s := va_Nw.of rfl (hts0 (.methodLinkNest RX11 25 yX6_init RX11) (by decide +kernel))
  have hNX11_39 : va_Nw (.methodLinkNest RX11 39 yX1_init RX11) s := va_Nw.of rfl (hts0 (.methodLinkNest RX11 39 yX1_init RX11) (by decide +kernel))
  have hl := lv_entry ([.ref b]) (n := 4) (Nat.le_of_ble_eq_true rfl)
  rw [lg_entry_eq]
  generalize (lg_sl ([.ref b]) ++ List.replicate (4 - (lg_sl ([.ref b])).length) Slot.unset).toArray = ls at hl ⊢
  have hl : lv_has ls 4 [(0, .ref b)] := hl
  refine va_new (ci := 11) (fs := [.null, .null, .null, .null, .null, .null, .int 0]) (C := RX11) (T := TX11) (N := 7) hx hb hts0 inX11 tyX11 tyX11_ok hown (hts (.classLink RL 7 RX11) (by decide +kernel)) (hts (.instantiable RX11 7) (by decide +kernel)) (hts (.initialized RX11) (by decide +kernel)) hK hP hD hS hA rfl (fun j hj => by rcases (show j = 0 ∨ j = 1 ∨ j = 2 ∨ j = 3 ∨ j = 4 ∨ j = 5 ∨ j = 6 by omega) with rfl | rfl | rfl | rfl | rfl | rfl | rfl <;> rfl) (Nat.le_of_ble_eq_true rfl) (Nat.le_of_ble_eq_true rfl) dL_law_0 (fun q_1 H hP hD hS => ?_)
  have hP : va_P (dC, dI) vwCl [(q_1, .inr (11, [.null, .null, .null, .null, .null, .null, .int 0]))] H := hP
  have hD : va_D (fun q : Nat => s.heap.size ≤ q) [(q_1, .inr (11, [.null, .null, .null, .null, .null, .null, .int 0]))] := hD
  refine lv_dup hx hb dL_law_3 rfl ?_
  have hPc := hP.sub (ws' := [(q_1, .inr (11, [.null, .null, .null, .null, .null, .null, .int 0]))]) [0] rfl
  have hDc := hD.sub (ws' := [(q_1, .inr (11, [.null, .null, .null, .null, .null, .null, .int 0]))]) [0] (by decide) rfl
  have hKc := hK.sub (tys' := []) [] rfl
  have hFc := va_free (wc := [(q_1, .inr (11, [.null, .null, .null, .null, .null, .null, .int 0]))]) hD hS hA [0] rfl
  refine va_callv (va_runI (As := []) (rest := [.ref q_1]) ⟨hx, hb, hml, hown, hts⟩ (k_JoinBench l dC dI H.size q_1) (cwI 0 hts gL_law_X11_init rfl rfl rfl (hts (.initialized RX11) (by decide +kernel)) (hts (.methodLink RL 9 yX11_init) (by decide +kernel)) (hts (.instanceMethod yX11_init) (by decide +kernel)) rfl (by decide +kernel) ⟨Nat.le_of_ble_eq_true rfl, Nat.le_of_ble_eq_true rfl⟩) ⟨fun a U g mk q => by obtain ⟨q0, q1, qP, qK, qD, e0, e1, e2, e3, e4, e5, e6, e7⟩ := q; exact ⟨q0, q1, qP, va_K.moved (u := U) (U := U.calling g mk a) (Vm.Alike.refl U.vm) qK, qD, va_AO.moved (u := U) (U := U.calling g mk a) (Vm.Alike.refl U.vm) e0, va_AO.moved (u := U) (U := U.calling g mk a) (Vm.Alike.refl U.vm) e1, va_Nw.same rfl (u := U) (U := U.calling g mk a) rfl e2, mn_AO_moved (u := U) (U := U.calling g mk a) (Vm.Alike.refl U.vm) e3, va_Nw.same rfl (u := U) (U := U.calling g mk a) rfl e4, va_Nw.same rfl (u := U) (U := U.calling g mk a) rfl e5, va_Nw.same rfl (u := U) (U := U.calling g mk a) rfl e6, va_Nw.same rfl (u := U) (U := U.calling g mk a) rfl e7⟩, fun U hU hW => ⟨rfl, by rw [hU], by rw [hU]; exact hPc, va_K.moved hW.alike hKc, hDc.weaken (fun _ _ _ _ => trivial), va_AO.moved hW.alike hAOX2, va_AO.moved hW.alike hAOX7, va_Nw.warmM hW hNX6_11, mn_AO_moved hW.alike hAOA, va_Nw.warmM hW hNX11_11, va_Nw.warmM hW hNX11_18, va_Nw.warmM hW hNX11_25, va_Nw.warmM hW hNX11_39⟩⟩ rfl rfl hl.1 rfl (lv_room (Nat.le_of_ble_eq_true rfl)) dL_law_4 ⟨Nat.le_of_ble_eq_true rfl, Nat.le_of_ble_eq_true rfl⟩) hS (fun q _ h => hFc q h) hFc (fun u t H1 locs ht hvm hw_2 hB hz1 hk1 hS => ?_)
  obtain ⟨ad, cd, fk⟩ := u
  obtain ⟨hP1, hK1, hD1⟩ := hB
  rw [ht] at hP1
  have hK1 := va_K.moved hvm.symm hK1
  obtain ⟨hP, hD⟩ := va_join (wr := []) (w1 := [(q_1, .inr (11, [.ref (ad 0), .ref (ad 2), .ref (ad 6), .ref (ad 11), .ref (ad 13), .null, .int 1])), ((ad 0), .inr (8, [.ref (ad 1), .int 0])), ((ad 1), .inl ((cd 0), 60, .inl (fun _ => 0))), ((ad 2), .inr (9, [.ref (ad 3), .ref (ad 4), .int 0, .int 0, .ref (ad 5)])), ((ad 5), .inl ((cd 1), 36, .inl (fun _ => 0))), ((ad 6), .inr (6, [.ref (ad 7), .ref (ad 8), .int 0, .int 0])), ((ad 7), .inr (0, [.ref (ad 9), .ref (ad 10), .int 0])), ((ad 11), .inr (10, [.ref (ad 12), .null])), ((ad 12), .inl ((cd 2), 36, .inl fk)), ((ad 13), .inr (1, [.ref (ad 14), .int 0, .ref (ad 15), .ref (ad 16), .ref (ad 17), .int 0])), ((ad 14), .inl ((cd 3), 20, .inl (fun _ => 0)))]) hP hD [0] [] rfl rfl (by decide) (by decide) hk1 hFc hP1 hD1
  have hK := hK.app hK1
  clear hPc hDc hFc hk1 hz1
  generalize H1 = H at hP hS ⊢
  have hP : va_P (dC, dI) vwCl [(q_1, .inr (11, [.ref (ad 0), .ref (ad 2), .ref (ad 6), .ref (ad 11), .ref (ad 13), .null, .int 1])), ((ad 0), .inr (8, [.ref (ad 1), .int 0])), ((ad 1), .inl ((cd 0), 60, .inl (fun _ => 0))), ((ad 2), .inr (9, [.ref (ad 3), .ref (ad 4), .int 0, .int 0, .ref (ad 5)])), ((ad 5), .inl ((cd 1), 36, .inl (fun _ => 0))), ((ad 6), .inr (6, [.ref (ad 7), .ref (ad 8), .int 0, .int 0])), ((ad 7), .inr (0, [.ref (ad 9), .ref (ad 10), .int 0])), ((ad 11), .inr (10, [.ref (ad 12), .null])), ((ad 12), .inl ((cd 2), 36, .inl fk)), ((ad 13), .inr (1, [.ref (ad 14), .int 0, .ref (ad 15), .ref (ad 16), .ref (ad 17), .int 0])), ((ad 14), .inl ((cd 3), 20, .inl (fun _ => 0)))] H := hP
  have hD : va_D (fun q : Nat => s.heap.size ≤ q) [(q_1, .inr (11, [.ref (ad 0), .ref (ad 2), .ref (ad 6), .ref (ad 11), .ref (ad 13), .null, .int 1])), ((ad 0), .inr (8, [.ref (ad 1), .int 0])), ((ad 1), .inl ((cd 0), 60, .inl (fun _ => 0))), ((ad 2), .inr (9, [.ref (ad 3), .ref (ad 4), .int 0, .int 0, .ref (ad 5)])), ((ad 5), .inl ((cd 1), 36, .inl (fun _ => 0))), ((ad 6), .inr (6, [.ref (ad 7), .ref (ad 8), .int 0, .int 0])), ((ad 7), .inr (0, [.ref (ad 9), .ref (ad 10), .int 0])), ((ad 11), .inr (10, [.ref (ad 12), .null])), ((ad 12), .inl ((cd 2), 36, .inl fk)), ((ad 13), .inr (1, [.ref (ad 14), .int 0, .ref (ad 15), .ref (ad 16), .ref (ad 17), .int 0])), ((ad 14), .inl ((cd 3), 20, .inl (fun _ => 0)))] := hD
  have hK : va_K (dC, dI) vwCl [((cd 0), .byte), ((cd 1), .boolean), ((cd 2), .int), ((cd 3), .int)] s := hK
  refine lv_astore_n (lv' := [(1, .ref q_1), (0, .ref b)]) hx hb dL_law_7 rfl hl (by decide) rfl (fun ls hl => ?_)
  refine va_new (ci := 12) (fs := [.null, .int 0, .int 0, .null, .null, .null, .null, .null, .null, .int 0, .null, .null, .null, .null, .null, .null, .null, .null, .null, .null, .int 0, .int 0, .int 0, .null, .null, .null, .int 0, .null, .int 0, .null, .null, .null, .null, .null, .int 0, .int 0, .long 0, .long 0, .int 0, .int 0, .null, .null, .null, .null, .null, .null, .int 0, .null, .null]) (C := RX12) (T := TX12) (N := 49) hx hb hts0 inX12 tyX12 tyX12_ok hown (hts (.classLink RL 10 RX12) (by decide +kernel)) (hts (.instantiable RX12 49) (by decide +kernel)) (hts (.initialized RX12) (by decide +kernel)) hK hP hD hS hA rfl (fun j hj => by rcases (show j = 0 ∨ j = 1 ∨ j = 2 ∨ j = 3 ∨ j = 4 ∨ j = 5 ∨ j = 6 ∨ j = 7 ∨ j = 8 ∨ j = 9 ∨ j = 10 ∨ j = 11 ∨ j = 12 ∨ j = 13 ∨ j = 14 ∨ j = 15 ∨ j = 16 ∨ j = 17 ∨ j = 18 ∨ j = 19 ∨ j = 20 ∨ j = 21 ∨ j = 22 ∨ j = 23 ∨ j = 24 ∨ j = 25 ∨ j = 26 ∨ j = 27 ∨ j = 28 ∨ j = 29 ∨ j = 30 ∨ j = 31 ∨ j = 32 ∨ j = 33 ∨ j = 34 ∨ j = 35 ∨ j = 36 ∨ j = 37 ∨ j = 38 ∨ j = 39 ∨ j = 40 ∨ j = 41 ∨ j = 42 ∨ j = 43 ∨ j = 44 ∨ j = 45 ∨ j = 46 ∨ j = 47 ∨ j = 48 by omega) with rfl | rfl | rfl | rfl | rfl | rfl | rfl | rfl | rfl | rfl | rfl | rfl | rfl | rfl | rfl | rfl | rfl | rfl | rfl | rfl | rfl | rfl | rfl | rfl | rfl | rfl | rfl | rfl | rfl | rfl | rfl | rfl | rfl | rfl | rfl | rfl | rfl | rfl | rfl | rfl | rfl | rfl | rfl | rfl | rfl | rfl | rfl | rfl | rfl <;> rfl) (Nat.le_of_ble_eq_true rfl) (Nat.le_of_ble_eq_true rfl) dL_law_8 (fun q_4 H hP hD hS => ?_)
  have hP : va_P (dC, dI) vwCl [(q_1, .inr (11, [.ref (ad 0), .ref (ad 2), .ref (ad 6), .ref (ad 11), .ref (ad 13), .null, .int 1])), ((ad 0), .inr (8, [.ref (ad 1), .int 0])), ((ad 1), .inl ((cd 0), 60, .inl (fun _ => 0))), ((ad 2), .inr (9, [.ref (ad 3), .ref (ad 4), .int 0, .int 0, .ref (ad 5)])), ((ad 5), .inl ((cd 1), 36, .inl (fun _ => 0))), ((ad 6), .inr (6, [.ref (ad 7), .ref (ad 8), .int 0, .int 0])), ((ad 7), .inr (0, [.ref (ad 9), .ref (ad 10), .int 0])), ((ad 11), .inr (10, [.ref (ad 12), .null])), ((ad 12), .inl ((cd 2), 36, .inl fk)), ((ad 13), .inr (1, [.ref (ad 14), .int 0, .ref (ad 15), .ref (ad 16), .ref (ad 17), .int 0])), ((ad 14), .inl ((cd 3), 20, .inl (fun _ => 0))), (q_4, .inr (12, [.null, .int 0, .int 0, .null, .null, .null, .null, .null, .null, .int 0, .null, .null, .null, .null, .null, .null, .null, .null, .null, .null, .int 0, .int 0, .int 0, .null, .null, .null, .int 0, .null, .int 0, .null, .null, .null, .null, .null, .int 0, .int 0, .long 0, .long 0, .int 0, .int 0, .null, .null, .null, .null, .null, .null, .int 0, .null, .null]))] H := hP
  have hD : va_D (fun q : Nat => s.heap.size ≤ q) [(q_1, .inr (11, [.ref (ad 0), .ref (ad 2), .ref (ad 6), .ref (ad 11), .ref (ad 13), .null, .int 1])), ((ad 0), .inr (8, [.ref (ad 1), .int 0])), ((ad 1), .inl ((cd 0), 60, .inl (fun _ => 0))), ((ad 2), .inr (9, [.ref (ad 3), .ref (ad 4), .int 0, .int 0, .ref (ad 5)])), ((ad 5), .inl ((cd 1), 36, .inl (fun _ => 0))), ((ad 6), .inr (6, [.ref (ad 7), .ref (ad 8), .int 0, .int 0])), ((ad 7), .inr (0, [.ref (ad 9), .ref (ad 10), .int 0])), ((ad 11), .inr (10, [.ref (ad 12), .null])), ((ad 12), .inl ((cd 2), 36, .inl fk)), ((ad 13), .inr (1, [.ref (ad 14), .int 0, .ref (ad 15), .ref (ad 16), .ref (ad 17), .int 0])), ((ad 14), .inl ((cd 3), 20, .inl (fun _ => 0))), (q_4, .inr (12, [.null, .int 0, .int 0, .null, .null, .null, .null, .null, .null, .int 0, .null, .null, .null, .null, .null, .null, .null, .null, .null, .null, .int 0, .int 0, .int 0, .null, .null, .null, .int 0, .null, .int 0, .null, .null, .null, .null, .null, .int 0, .int 0, .long 0, .long 0, .int 0, .int 0, .null, .null, .null, .null, .null, .null, .int 0, .null, .null]))] := hD
  refine lv_dup hx hb dL_law_11 rfl ?_
  have hPc := hP.sub (ws' := [(q_4, .inr (12, [.null, .int 0, .int 0, .null, .null, .null, .null, .null, .null, .int 0, .null, .null, .null, .null, .null, .null, .null, .null, .null, .null, .int 0, .int 0, .int 0, .null, .null, .null, .int 0, .null, .int 0, .null, .null, .null, .null, .null, .int 0, .int 0, .long 0, .long 0, .int 0, .int 0, .null, .null, .null, .null, .null, .null, .int 0, .null, .null]))]) [11] rfl
  have hDc := hD.sub (ws' := [(q_4, .inr (12, [.null, .int 0, .int 0, .null, .null, .null, .null, .null, .null, .int 0, .null, .null, .null, .null, .null, .null, .null, .null, .null, .null, .int 0, .int 0, .int 0, .null, .null, .null, .int 0, .null, .int 0, .null, .null, .null, .null, .null, .int 0, .int 0, .long 0, .long 0, .int 0, .int 0, .null, .null, .null, .null, .null, .null, .int 0, .null, .null]))]) [11] (by decide) rfl
  have hKc := hK.sub (tys' := []) [] rfl
  have hFc := va_free (wc := [(q_4, .inr (12, [.null, .int 0, .int 0, .null, .null, .null, .null, .null, .null, .int 0, .null, .null, .null, .null, .null, .null, .null, .null, .null, .null, .int 0, .int 0, .int 0, .null, .null, .null, .int 0, .null, .int 0, .null, .null, .null, .null, .null, .int 0, .int 0, .long 0, .long 0, .int 0, .int 0, .null, .null, .null, .null, .null, .null, .int 0, .null, .null]))]) hD hS hA [11] rfl
  refine va_callv (va_runI (As := []) (rest := [.ref q_4]) ⟨hx, hb, hml, hown, hts⟩ (m_Model l dC dI H.size q_4) (cwI 0 hts gL_law_X12_init rfl rfl rfl (hts (.initialized RX12) (by decide +kernel)) (hts (.methodLink RL 12 yX12_init) (by decide +kernel)) (hts (.instanceMethod yX12_init) (by decide +kernel)) rfl (by decide +kernel) ⟨Nat.le_of_ble_eq_true rfl, Nat.le_of_ble_eq_true rfl⟩) ⟨fun a U g mk q => by obtain ⟨q0, q1, qP, qK, qD⟩ := q; exact ⟨q0, q1, qP, va_K.moved (u := U) (U := U.calling g mk a) (Vm.Alike.refl U.vm) qK, qD⟩, fun U hU hW => ⟨rfl, by rw [hU], by rw [hU]; exact hPc, va_K.moved hW.alike hKc, hDc.weaken (fun _ _ _ _ => trivial)⟩⟩ rfl rfl hl.1 rfl (lv_room (Nat.le_of_ble_eq_true rfl)) dL_law_12 ⟨Nat.le_of_ble_eq_true rfl, Nat.le_of_ble_eq_true rfl⟩) hS (fun q _ h => hFc q h) hFc (fun u t H1 locs ht hvm hw_5 hB hz1 hk1 hS => ?_)
  obtain ⟨rr, ce, fm⟩ := u
  obtain ⟨hP1, hK1, hD1⟩ := hB
  rw [ht] at hP1
  have hK1 := va_K.moved hvm.symm hK1
  obtain ⟨hP, hD⟩ := va_join (wr := [(q_1, .inr (11, [.ref (ad 0), .ref (ad 2), .ref (ad 6), .ref (ad 11), .ref (ad 13), .null, .int 1])), ((ad 0), .inr (8, [.ref (ad 1), .int 0])), ((ad 1), .inl ((cd 0), 60, .inl (fun _ => 0))), ((ad 2), .inr (9, [.ref (ad 3), .ref (ad 4), .int 0, .int 0, .ref (ad 5)])), ((ad 5), .inl ((cd 1), 36, .inl (fun _ => 0))), ((ad 6), .inr (6, [.ref (ad 7), .ref (ad 8), .int 0, .int 0])), ((ad 7), .inr (0, [.ref (ad 9), .ref (ad 10), .int 0])), ((ad 11), .inr (10, [.ref (ad 12), .null])), ((ad 12), .inl ((cd 2), 36, .inl fk)), ((ad 13), .inr (1, [.ref (ad 14), .int 0, .ref (ad 15), .ref (ad 16), .ref (ad 17), .int 0])), ((ad 14), .inl ((cd 3), 20, .inl (fun _ => 0)))]) (w1 := [(q_4, .inr (12, [.ref (rr 0), .int 0, .int 0, .ref (rr 3), .ref (rr 4), .ref (rr 5), .ref (rr 6), .ref (rr 7), .ref (rr 8), .int 0, .ref (rr 10), .ref (rr 11), .ref (rr 12), .ref (rr 13), .ref (rr 14), .ref (rr 15), .ref (rr 16), .ref (rr 17), .ref (rr 18), .ref (rr 19), .int 1, .int 0, .int 0, .ref (rr 23), .ref (rr 24), .ref (rr 25), .int 0, .ref (rr 27), .int 0, .ref (rr 29), .ref (rr 30), .ref (rr 31), .ref (rr 32), .ref (rr 33), .int 0, .int 0, .long 0, .long 0, .int 0, .int 0, .ref (rr 40), .ref (rr 41), .ref (rr 42), .ref (rr 43), .ref (rr 44), .ref (rr 45), .int 0, .ref (rr 47), .ref (rr 48)])), ((rr 0), .inl ((ce 0), 60, .inl (fun _ => 0))), ((rr 17), .inl ((ce 1), 36, .inl (fun _ => 0))), ((rr 18), .inl ((ce 2), 36, .inl fm)), ((rr 19), .inl ((ce 3), 20, .inl (fun _ => 0)))]) hP hD [11] [0, 1, 2, 3, 4, 5, 6, 7, 8, 9, 10] rfl rfl (by decide) (by decide) hk1 hFc hP1 hD1
  have hK := hK.app hK1
  clear hPc hDc hFc hk1 hz1
  generalize H1 = H at hP hS ⊢
  have hP : va_P (dC, dI) vwCl [(q_1, .inr (11, [.ref (ad 0), .ref (ad 2), .ref (ad 6), .ref (ad 11), .ref (ad 13), .null, .int 1])), ((ad 0), .inr (8, [.ref (ad 1), .int 0])), ((ad 1), .inl ((cd 0), 60, .inl (fun _ => 0))), ((ad 2), .inr (9, [.ref (ad 3), .ref (ad 4), .int 0, .int 0, .ref (ad 5)])), ((ad 5), .inl ((cd 1), 36, .inl (fun _ => 0))), ((ad 6), .inr (6, [.ref (ad 7), .ref (ad 8), .int 0, .int 0])), ((ad 7), .inr (0, [.ref (ad 9), .ref (ad 10), .int 0])), ((ad 11), .inr (10, [.ref (ad 12), .null])), ((ad 12), .inl ((cd 2), 36, .inl fk)), ((ad 13), .inr (1, [.ref (ad 14), .int 0, .ref (ad 15), .ref (ad 16), .ref (ad 17), .int 0])), ((ad 14), .inl ((cd 3), 20, .inl (fun _ => 0))), (q_4, .inr (12, [.ref (rr 0), .int 0, .int 0, .ref (rr 3), .ref (rr 4), .ref (rr 5), .ref (rr 6), .ref (rr 7), .ref (rr 8), .int 0, .ref (rr 10), .ref (rr 11), .ref (rr 12), .ref (rr 13), .ref (rr 14), .ref (rr 15), .ref (rr 16), .ref (rr 17), .ref (rr 18), .ref (rr 19), .int 1, .int 0, .int 0, .ref (rr 23), .ref (rr 24), .ref (rr 25), .int 0, .ref (rr 27), .int 0, .ref (rr 29), .ref (rr 30), .ref (rr 31), .ref (rr 32), .ref (rr 33), .int 0, .int 0, .long 0, .long 0, .int 0, .int 0, .ref (rr 40), .ref (rr 41), .ref (rr 42), .ref (rr 43), .ref (rr 44), .ref (rr 45), .int 0, .ref (rr 47), .ref (rr 48)])), ((rr 0), .inl ((ce 0), 60, .inl (fun _ => 0))), ((rr 17), .inl ((ce 1), 36, .inl (fun _ => 0))), ((rr 18), .inl ((ce 2), 36, .inl fm)), ((rr 19), .inl ((ce 3), 20, .inl (fun _ => 0)))] H := hP
  have hD : va_D (fun q : Nat => s.heap.size ≤ q) [(q_1, .inr (11, [.ref (ad 0), .ref (ad 2), .ref (ad 6), .ref (ad 11), .ref (ad 13), .null, .int 1])), ((ad 0), .inr (8, [.ref (ad 1), .int 0])), ((ad 1), .inl ((cd 0), 60, .inl (fun _ => 0))), ((ad 2), .inr (9, [.ref (ad 3), .ref (ad 4), .int 0, .int 0, .ref (ad 5)])), ((ad 5), .inl ((cd 1), 36, .inl (fun _ => 0))), ((ad 6), .inr (6, [.ref (ad 7), .ref (ad 8), .int 0, .int 0])), ((ad 7), .inr (0, [.ref (ad 9), .ref (ad 10), .int 0])), ((ad 11), .inr (10, [.ref (ad 12), .null])), ((ad 12), .inl ((cd 2), 36, .inl fk)), ((ad 13), .inr (1, [.ref (ad 14), .int 0, .ref (ad 15), .ref (ad 16), .ref (ad 17), .int 0])), ((ad 14), .inl ((cd 3), 20, .inl (fun _ => 0))), (q_4, .inr (12, [.ref (rr 0), .int 0, .int 0, .ref (rr 3), .ref (rr 4), .ref (rr 5), .ref (rr 6), .ref (rr 7), .ref (rr 8), .int 0, .ref (rr 10), .ref (rr 11), .ref (rr 12), .ref (rr 13), .ref (rr 14), .ref (rr 15), .ref (rr 16), .ref (rr 17), .ref (rr 18), .ref (rr 19), .int 1, .int 0, .int 0, .ref (rr 23), .ref (rr 24), .ref (rr 25), .int 0, .ref (rr 27), .int 0, .ref (rr 29), .ref (rr 30), .ref (rr 31), .ref (rr 32), .ref (rr 33), .int 0, .int 0, .long 0, .long 0, .int 0, .int 0, .ref (rr 40), .ref (rr 41), .ref (rr 42), .ref (rr 43), .ref (rr 44), .ref (rr 45), .int 0, .ref (rr 47), .ref (rr 48)])), ((rr 0), .inl ((ce 0), 60, .inl (fun _ => 0))), ((rr 17), .inl ((ce 1), 36, .inl (fun _ => 0))), ((rr 18), .inl ((ce 2), 36, .inl fm)), ((rr 19), .inl ((ce 3), 20, .inl (fun _ => 0)))] := hD
  have hK : va_K (dC, dI) vwCl [((cd 0), .byte), ((cd 1), .boolean), ((cd 2), .int), ((cd 3), .int), ((ce 0), .byte), ((ce 1), .boolean), ((ce 2), .int), ((ce 3), .int)] s := hK
  refine lv_astore_n (lv' := [(2, .ref q_4), (1, .ref q_1), (0, .ref b)]) hx hb dL_law_15 rfl hl (by decide) rfl (fun ls hl => ?_)
  refine lv_iconst (v := 0) hx hb dL_law_16 (by decide) ?_
  refine lv_istore_n (lv' := [(3, .int 0), (2, .ref q_4), (1, .ref q_1), (0, .ref b)]) hx hb dL_law_17 rfl hl (by decide) rfl (fun ls hl => ?_)
  refine W.widen (k := 2000) (n := 200000) (Nat.le_of_ble_eq_true rfl) (Nat.le_of_ble_eq_true rfl) ?_
  have hP := hP.sub (ws' := [(q_1, .inr (11, [.ref (ad 0), .ref (ad 2), .ref (ad 6), .ref (ad 11), .ref (ad 13), .null, .int 1])), ((ad 0), .inr (8, [.ref (ad 1), .int 0])), ((ad 1), .inl ((cd 0), 60, .inl (fun _ => 0))), ((ad 2), .inr (9, [.ref (ad 3), .ref (ad 4), .int 0, .int 0, .ref (ad 5)])), ((ad 5), .inl ((cd 1), 36, .inl (fun _ => 0))), ((ad 6), .inr (6, [.ref (ad 7), .ref (ad 8), .int 0, .int 0])), ((ad 7), .inr (0, [.ref (ad 9), .ref (ad 10), .int 0])), ((ad 11), .inr (10, [.ref (ad 12), .null])), ((ad 12), .inl ((cd 2), 36, .inl fk)), ((ad 13), .inr (1, [.ref (ad 14), .int 0, .ref (ad 15), .ref (ad 16), .ref (ad 17), .int 0])), ((ad 14), .inl ((cd 3), 20, .inl (fun _ => 0))), (q_4, .inr (12, [.ref (rr 0), .int 0, .int 0, .ref (rr 3), .ref (rr 4), .ref (rr 5), .ref (rr 6), .ref (rr 7), .ref (rr 8), .int 0, .ref (rr 10), .ref (rr 11), .ref (rr 12), .ref (rr 13), .ref (rr 14), .ref (rr 15), .ref (rr 16), .ref (rr 17), .ref (rr 18), .ref (rr 19), .int 1, .int 0, .int 0, .ref (rr 23), .ref (rr 24), .ref (rr 25), .int 0, .ref (rr 27), .int 0, .ref (rr 29), .ref (rr 30), .ref (rr 31), .ref (rr 32), .ref (rr 33), .int 0, .int 0, .long 0, .long 0, .int 0, .int 0, .ref (rr 40), .ref (rr 41), .ref (rr 42), .ref (rr 43), .ref (rr 44), .ref (rr 45), .int 0, .ref (rr 47), .ref (rr 48)])), ((rr 0), .inl ((ce 0), 60, .inl (fun _ => 0))), ((rr 17), .inl ((ce 1), 36, .inl (fun _ => 0))), ((rr 18), .inl ((ce 2), 36, .inl fm)), ((rr 19), .inl ((ce 3), 20, .inl (fun _ => 0)))]) [0, 1, 2, 3, 4, 5, 6, 7, 8, 9, 10, 11, 12, 13, 14, 15] rfl
  have hD := hD.sub (ws' := [(q_1, .inr (11, [.ref (ad 0), .ref (ad 2), .ref (ad 6), .ref (ad 11), .ref (ad 13), .null, .int 1])), ((ad 0), .inr (8, [.ref (ad 1), .int 0])), ((ad 1), .inl ((cd 0), 60, .inl (fun _ => 0))), ((ad 2), .inr (9, [.ref (ad 3), .ref (ad 4), .int 0, .int 0, .ref (ad 5)])), ((ad 5), .inl ((cd 1), 36, .inl (fun _ => 0))), ((ad 6), .inr (6, [.ref (ad 7), .ref (ad 8), .int 0, .int 0])), ((ad 7), .inr (0, [.ref (ad 9), .ref (ad 10), .int 0])), ((ad 11), .inr (10, [.ref (ad 12), .null])), ((ad 12), .inl ((cd 2), 36, .inl fk)), ((ad 13), .inr (1, [.ref (ad 14), .int 0, .ref (ad 15), .ref (ad 16), .ref (ad 17), .int 0])), ((ad 14), .inl ((cd 3), 20, .inl (fun _ => 0))), (q_4, .inr (12, [.ref (rr 0), .int 0, .int 0, .ref (rr 3), .ref (rr 4), .ref (rr 5), .ref (rr 6), .ref (rr 7), .ref (rr 8), .int 0, .ref (rr 10), .ref (rr 11), .ref (rr 12), .ref (rr 13), .ref (rr 14), .ref (rr 15), .ref (rr 16), .ref (rr 17), .ref (rr 18), .ref (rr 19), .int 1, .int 0, .int 0, .ref (rr 23), .ref (rr 24), .ref (rr 25), .int 0, .ref (rr 27), .int 0, .ref (rr 29), .ref (rr 30), .ref (rr 31), .ref (rr 32), .ref (rr 33), .int 0, .int 0, .long 0, .long 0, .int 0, .int 0, .ref (rr 40), .ref (rr 41), .ref (rr 42), .ref (rr 43), .ref (rr 44), .ref (rr 45), .int 0, .ref (rr 47), .ref (rr 48)])), ((rr 0), .inl ((ce 0), 60, .inl (fun _ => 0))), ((rr 17), .inl ((ce 1), 36, .inl (fun _ => 0))), ((rr 18), .inl ((ce 2), 36, .inl fm)), ((rr 19), .inl ((ce 3), 20, .inl (fun _ => 0)))]) [0, 1, 2, 3, 4, 5, 6, 7, 8, 9, 10, 11, 12, 13, 14, 15] (by decide) rfl
  have hfk : ∀ j, j < 36 → fk j = -1 := hw_2
  have hfm : ∀ j, j < 36 → fm j = -1 := hw_5
  rcases (show L = 0 ∨ L = 1 ∨ L = 2 ∨ L = 3 ∨ L = 4 ∨ L = 5 ∨ L = 6 by omega) with rfl | rfl | rfl | rfl | rfl | rfl | rfl
  · refine lv_iload_n hx hb dL_law_18 rfl (lv_at hl 0 rfl) ?_
    refine lv_aload_n hx hb dL_law_19 rfl (lv_at hl 3 rfl) ?_
    refine va_slen hx hb hX hbl hbA hS dL_law_20 ?_
    refine lv_topi (fun y_7 ey_7 => ?_)
    obtain rfl : y_7 = 0 := ey_7.trans (by decide)
    refine lv_bipush (v := 6) hx hb dL_law_21 (by decide) ?_
    refine lv_isub hx hb dL_law_23 ?_
    refine lv_topi (fun y_8 ey_8 => ?_)
    obtain rfl : y_8 = (-6) := ey_8.trans (by decide)
    refine lv_icmp_gt (tgt := 1031) hx hb dL_law_24 (by decide) (fun c_9 => ?_) (fun c_9 => ?_)
    rotate_left
    · exact absurd (by decide) c_9
    refine lv_iconst (v := 1) hx hb dL_law_1031 (by decide) ?_
    refine va_forget (fun q hq => hS.2.2 q hq) ?_
    refine W.widen (k := 600000) (n := 7302250) (Nat.le_of_ble_eq_true rfl) (Nat.le_of_ble_eq_true rfl) ?_
    exact lw_ret hx hb hr hlocks dL_law_1032
  · refine lv_iload_n hx hb dL_law_18 rfl (lv_at hl 0 rfl) ?_
    refine lv_aload_n hx hb dL_law_19 rfl (lv_at hl 3 rfl) ?_
    refine va_slen hx hb hX hbl hbA hS dL_law_20 ?_
    refine lv_topi (fun y_10 ey_10 => ?_)
    obtain rfl : y_10 = 1 := ey_10.trans (by decide)
    refine lv_bipush (v := 6) hx hb dL_law_21 (by decide) ?_
    refine lv_isub hx hb dL_law_23 ?_
    refine lv_topi (fun y_11 ey_11 => ?_)
    obtain rfl : y_11 = (-5) := ey_11.trans (by decide)
    refine lv_icmp_gt (tgt := 1031) hx hb dL_law_24 (by decide) (fun c_12 => ?_) (fun c_12 => ?_)
    rotate_left
    · exact absurd (by decide) c_12
    refine lv_iconst (v := 1) hx hb dL_law_1031 (by decide) ?_
    refine va_forget (fun q hq => hS.2.2 q hq) ?_
    refine W.widen (k := 600000) (n := 7302250) (Nat.le_of_ble_eq_true rfl) (Nat.le_of_ble_eq_true rfl) ?_
    exact lw_ret hx hb hr hlocks dL_law_1032
  · refine lv_iload_n hx hb dL_law_18 rfl (lv_at hl 0 rfl) ?_
    refine lv_aload_n hx hb dL_law_19 rfl (lv_at hl 3 rfl) ?_
    refine va_slen hx hb hX hbl hbA hS dL_law_20 ?_
    refine lv_topi (fun y_13 ey_13 => ?_)
    obtain rfl : y_13 = 2 := ey_13.trans (by decide)
    refine lv_bipush (v := 6) hx hb dL_law_21 (by decide) ?_
    refine lv_isub hx hb dL_law_23 ?_
    refine lv_topi (fun y_14 ey_14 => ?_)
    obtain rfl : y_14 = (-4) := ey_14.trans (by decide)
    refine lv_icmp_gt (tgt := 1031) hx hb dL_law_24 (by decide) (fun c_15 => ?_) (fun c_15 => ?_)
    rotate_left
    · exact absurd (by decide) c_15
    refine lv_iconst (v := 1) hx hb dL_law_1031 (by decide) ?_
    refine va_forget (fun q hq => hS.2.2 q hq) ?_
    refine W.widen (k := 600000) (n := 7302250) (Nat.le_of_ble_eq_true rfl) (Nat.le_of_ble_eq_true rfl) ?_
    exact lw_ret hx hb hr hlocks dL_law_1032
  · refine lv_iload_n hx hb dL_law_18 rfl (lv_at hl 0 rfl) ?_
    refine lv_aload_n hx hb dL_law_19 rfl (lv_at hl 3 rfl) ?_
    refine va_slen hx hb hX hbl hbA hS dL_law_20 ?_
    refine lv_topi (fun y_16 ey_16 => ?_)
    obtain rfl : y_16 = 3 := ey_16.trans (by decide)
    refine lv_bipush (v := 6) hx hb dL_law_21 (by decide) ?_
    refine lv_isub hx hb dL_law_23 ?_
    refine lv_topi (fun y_17 ey_17 => ?_)
    obtain rfl : y_17 = (-3) := ey_17.trans (by decide)
    refine lv_icmp_gt (tgt := 1031) hx hb dL_law_24 (by decide) (fun c_18 => ?_) (fun c_18 => ?_)
    rotate_left
    · exact absurd (by decide) c_18
    refine lv_iconst (v := 1) hx hb dL_law_1031 (by decide) ?_
    refine va_forget (fun q hq => hS.2.2 q hq) ?_
    refine W.widen (k := 600000) (n := 7302250) (Nat.le_of_ble_eq_true rfl) (Nat.le_of_ble_eq_true rfl) ?_
    exact lw_ret hx hb hr hlocks dL_law_1032
  · refine lv_iload_n hx hb dL_law_18 rfl (lv_at hl 0 rfl) ?_
    refine lv_aload_n hx hb dL_law_19 rfl (lv_at hl 3 rfl) ?_
    refine va_slen hx hb hX hbl hbA hS dL_law_20 ?_
    refine lv_topi (fun y_19 ey_19 => ?_)
    obtain rfl : y_19 = 4 := ey_19.trans (by decide)
    refine lv_bipush (v := 6) hx hb dL_law_21 (by decide) ?_
    refine lv_isub hx hb dL_law_23 ?_
    refine lv_topi (fun y_20 ey_20 => ?_)
    obtain rfl : y_20 = (-2) := ey_20.trans (by decide)
    refine lv_icmp_gt (tgt := 1031) hx hb dL_law_24 (by decide) (fun c_21 => ?_) (fun c_21 => ?_)
    rotate_left
    · exact absurd (by decide) c_21
    refine lv_iconst (v := 1) hx hb dL_law_1031 (by decide) ?_
    refine va_forget (fun q hq => hS.2.2 q hq) ?_
    refine W.widen (k := 600000) (n := 7302250) (Nat.le_of_ble_eq_true rfl) (Nat.le_of_ble_eq_true rfl) ?_
    exact lw_ret hx hb hr hlocks dL_law_1032
  · refine lv_iload_n hx hb dL_law_18 rfl (lv_at hl 0 rfl) ?_
    refine lv_aload_n hx hb dL_law_19 rfl (lv_at hl 3 rfl) ?_
    refine va_slen hx hb hX hbl hbA hS dL_law_20 ?_
    refine lv_topi (fun y_22 ey_22 => ?_)
    obtain rfl : y_22 = 5 := ey_22.trans (by decide)
    refine lv_bipush (v := 6) hx hb dL_law_21 (by decide) ?_
    refine lv_isub hx hb dL_law_23 ?_
    refine lv_topi (fun y_23 ey_23 => ?_)
    obtain rfl : y_23 = (-1) := ey_23.trans (by decide)
    refine lv_icmp_gt (tgt := 1031) hx hb dL_law_24 (by decide) (fun c_24 => ?_) (fun c_24 => ?_)
    rotate_left
    · exact absurd (by decide) c_24
    refine lv_iconst (v := 1) hx hb dL_law_1031 (by decide) ?_
    refine va_forget (fun q hq => hS.2.2 q hq) ?_
    refine W.widen (k := 600000) (n := 7302250) (Nat.le_of_ble_eq_true rfl) (Nat.le_of_ble_eq_true rfl) ?_
    exact lw_ret hx hb hr hlocks dL_law_1032
  · refine lv_iload_n hx hb dL_law_18 rfl (lv_at hl 0 rfl) ?_
    refine lv_aload_n hx hb dL_law_19 rfl (lv_at hl 3 rfl) ?_
    refine va_slen hx hb hX hbl hbA hS dL_law_20 ?_
    refine lv_topi (fun y_25 ey_25 => ?_)
    obtain rfl : y_25 = 6 := ey_25.trans (by decide)
    refine lv_bipush (v := 6) hx hb dL_law_21 (by decide) ?_
    refine lv_isub hx hb dL_law_23 ?_
    refine lv_topi (fun y_26 ey_26 => ?_)
    obtain rfl : y_26 = 0 := ey_26.trans (by decide)
    refine lv_icmp_gt (tgt := 1031) hx hb dL_law_24 (by decide) (fun c_27 => ?_) (fun c_27 => ?_)
    · exact absurd c_27 (by decide)
    refine lv_aload_n hx hb dL_law_27 rfl (lv_at hl 3 rfl) ?_
    refine lv_iload_n hx hb dL_law_28 rfl (lv_at hl 0 rfl) ?_
    refine va_sld hx hb hX hbl hbA hS (show vp_in 0 6 by unfold vp_in; decide) dL_law_29 ?_
    refine lv_bipush (v := 31) hx hb dL_law_30 (by decide) ?_
    refine lv_iand hx hb dL_law_32 ?_
    refine lv_topi (fun y_28 ey_28 => ?_)
    rcases sw_26 y_28 with hsw | rfl | rfl | rfl | rfl | rfl | rfl | rfl | rfl | rfl | rfl | rfl | rfl | rfl | rfl | rfl | rfl | rfl | rfl | rfl | rfl | rfl | rfl | rfl | rfl | rfl | rfl
    · refine lv_tableOut (tgt := 1025) hx hb dL_law_33 hsw (by decide) ?_
      exact law_tail C1 (Nat.le_of_ble_eq_true rfl) (Nat.le_of_ble_eq_true rfl) hS (lv_sub hl [0, 1, 2, 3] rfl)
    · refine lv_tableIn (off := 119) (tgt := 152) hx hb dL_law_33 (by decide) (by decide) rfl (by decide) ?_
      exact law_c0 C1 hfk hfm hK hP hD hS (lv_sub hl [0, 1, 2, 3] rfl)
    · refine lv_tableIn (off := 182) (tgt := 215) hx hb dL_law_33 (by decide) (by decide) rfl (by decide) ?_
      exact law_c1 C1 hfk hfm hK hP hD hS (lv_sub hl [0, 1, 2, 3] rfl)
    · refine lv_tableIn (off := 205) (tgt := 238) hx hb dL_law_33 (by decide) (by decide) rfl (by decide) ?_
      exact law_c2 C1 hfk hfm hK hP hD hS (lv_sub hl [0, 1, 2, 3] rfl)
    · refine lv_tableIn (off := 274) (tgt := 307) hx hb dL_law_33 (by decide) (by decide) rfl (by decide) ?_
      exact law_c3 C1 hfk hfm hK hP hD hS (lv_sub hl [0, 1, 2, 3] rfl)
    · refine lv_tableIn (off := 337) (tgt := 370) hx hb dL_law_33 (by decide) (by decide) rfl (by decide) ?_
      exact law_c4 C1 hfk hfm hK hP hD hS (lv_sub hl [0, 1, 2, 3] rfl)
    · refine lv_tableIn (off := 370) (tgt := 403) hx hb dL_law_33 (by decide) (by decide) rfl (by decide) ?_
      exact law_c5 C1 hfk hfm hK hP hD hS (lv_sub hl [0, 1, 2, 3] rfl)
    · refine lv_tableIn (off := 429) (tgt := 462) hx hb dL_law_33 (by decide) (by decide) rfl (by decide) ?_
      exact law_c6 C1 hfk hfm hK hP hD hS (lv_sub hl [0, 1, 2, 3] rfl)
    · refine lv_tableIn (off := 472) (tgt := 505) hx hb dL_law_33 (by decide) (by decide) rfl (by decide) ?_
      exact law_c7 C1 hfk hfm hK hP hD hS (lv_sub hl [0, 1, 2, 3] rfl)
    · refine lv_tableIn (off := 515) (tgt := 548) hx hb dL_law_33 (by decide) (by decide) rfl (by decide) ?_
      exact law_c8 C1 hfk hfm hK hP hD hS (lv_sub hl [0, 1, 2, 3] rfl)
    · refine lv_tableIn (off := 568) (tgt := 601) hx hb dL_law_33 (by decide) (by decide) rfl (by decide) ?_
      exact law_c9 C1 hfk hfm hK hP hD hS (lv_sub hl [0, 1, 2, 3] rfl)
    · refine lv_tableIn (off := 591) (tgt := 624) hx hb dL_law_33 (by decide) (by decide) rfl (by decide) ?_
      exact law_c10 C1 hfk hfm hK hP hD hS (lv_sub hl [0, 1, 2, 3] rfl)
    · refine lv_tableIn (off := 624) (tgt := 657) hx hb dL_law_33 (by decide) (by decide) rfl (by decide) ?_
      exact law_c11 C1 hfk hfm hK hP hD hS (lv_sub hl [0, 1, 2, 3] rfl)
    · refine lv_tableIn (off := 637) (tgt := 670) hx hb dL_law_33 (by decide) (by decide) rfl (by decide) ?_
      exact law_c12 C1 hfk hfm hK hP hD hS (lv_sub hl [0, 1, 2, 3] rfl)
    · refine lv_tableIn (off := 660) (tgt := 693) hx hb dL_law_33 (by decide) (by decide) rfl (by decide) ?_
      exact law_c13 C1 hfk hfm hK hP hD hS (lv_sub hl [0, 1, 2, 3] rfl)
    · refine lv_tableIn (off := 673) (tgt := 706) hx hb dL_law_33 (by decide) (by decide) rfl (by decide) ?_
      exact law_c14 C1 hfk hfm hK hP hD hS (lv_sub hl [0, 1, 2, 3] rfl)
    · refine lv_tableIn (off := 697) (tgt := 730) hx hb dL_law_33 (by decide) (by decide) rfl (by decide) ?_
      exact law_c15 C1 hfk hfm hK hP hD hS (lv_sub hl [0, 1, 2, 3] rfl)
    · refine lv_tableIn (off := 721) (tgt := 754) hx hb dL_law_33 (by decide) (by decide) rfl (by decide) ?_
      exact law_c16 C1 hfk hfm hK hP hD hS (lv_sub hl [0, 1, 2, 3] rfl)
    · refine lv_tableIn (off := 754) (tgt := 787) hx hb dL_law_33 (by decide) (by decide) rfl (by decide) ?_
      exact law_c17 C1 hfk hfm hK hP hD hS (lv_sub hl [0, 1, 2, 3] rfl)
    · refine lv_tableIn (off := 787) (tgt := 820) hx hb dL_law_33 (by decide) (by decide) rfl (by decide) ?_
      exact law_c18 C1 hfk hfm hK hP hD hS (lv_sub hl [0, 1, 2, 3] rfl)
    · refine lv_tableIn (off := 820) (tgt := 853) hx hb dL_law_33 (by decide) (by decide) rfl (by decide) ?_
      exact law_c19 C1 hfk hfm hK hP hD hS (lv_sub hl [0, 1, 2, 3] rfl)
    · refine lv_tableIn (off := 854) (tgt := 887) hx hb dL_law_33 (by decide) (by decide) rfl (by decide) ?_
      exact law_c20 C1 hfk hfm hK hP hD hS (lv_sub hl [0, 1, 2, 3] rfl)
    · refine lv_tableIn (off := 877) (tgt := 910) hx hb dL_law_33 (by decide) (by decide) rfl (by decide) ?_
      exact law_c21 C1 hfk hfm hK hP hD hS (lv_sub hl [0, 1, 2, 3] rfl)
    · refine lv_tableIn (off := 890) (tgt := 923) hx hb dL_law_33 (by decide) (by decide) rfl (by decide) ?_
      exact law_c22 C1 hfk hfm hK hP hD hS (lv_sub hl [0, 1, 2, 3] rfl)
    · refine lv_tableIn (off := 913) (tgt := 946) hx hb dL_law_33 (by decide) (by decide) rfl (by decide) ?_
      exact law_c23 C1 hfk hfm hK hP hD hS (lv_sub hl [0, 1, 2, 3] rfl)
    · refine lv_tableIn (off := 936) (tgt := 969) hx hb dL_law_33 (by decide) (by decide) rfl (by decide) ?_
      exact law_c24 C1 hfk hfm hK hP hD hS (lv_sub hl [0, 1, 2, 3] rfl)
    · refine lv_tableIn (off := 969) (tgt := 1002) hx hb dL_law_33 (by decide) (by decide) rfl (by decide) ?_
      exact law_c25 C1 hfk hfm hK hP hD hS (lv_sub hl [0, 1, 2, 3] rfl)
