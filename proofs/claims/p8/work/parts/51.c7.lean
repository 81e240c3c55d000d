theorem ok20_full {X : kGh} {a n : Nat} (f : Nat → Int32) (h0 : X.2 a = 0 := by rfl) : ok20 X a n (-2147483648) 2147483647 f := fun z hz => ⟨kz_lo _, kz_hi _, fun q => by rw [h0] at q; omega⟩
set_option maxHeartbeats 4000000 in
set_option maxRecDepth 100000 in
/-- J7_fill_53178 -/
theorem c_fill234 (l : Launch) (dC : Nat → ClassId) (dI : Nat → Nat → Nat) (ca : Nat → ClassId) (A : Nat → Prop) (X : jG) (hU : jU X) (Hp : Heap) (ar : Nat) (v : Int) (g_ar : X.1 ar = (234, 20, 40, -2147483648, 2147483647)) : Met l yJ7_fill_53178 wsJ7_fill_53178 ({ frames := 0, cells := 0, slots := 0, locals := 0 }) (va_Pc [.ref ar, .int (kz v)] (fun U => U.heap = Hp ∧ jK (dC, dI) ca U ∧ jv (dC, dI) ca A X U.heap)) (va_Qv (fun (u : Unit) => True) (fun u U => jK (dC, dI) ca U ∧ jv (dC, dI) ca A X U.heap ∧ kfm X [234] Hp U.heap) A) 0 0 A := by
  refine Met.ofW (cc := cJ7_fill_53178) (maxL := 4) (ret := none) (by decide) rfl ?_
  intro p e s m args below meth c s₁ B hml hv
  obtain ⟨rfl, hHp, ⟨hK, hN⟩, hI⟩ := hv
  have hx := B.exec
  have hb := B.bytes
  have hr := B.returns
  have hts := atoms_spec (ws := wsJ7_fill_53178) B.pre
  have hown : s.vm.findClass RJ7 = some m.cls := findClass_of_methodNamed B.named
  obtain ⟨H, hH⟩ : ∃ H : Heap, H = s.heap := ⟨_, rfl⟩
  have hS : va_S A s.heap H [] := by rw [hH]; exact va_S.rf
  have hF : kfm X [234] Hp H := by rw [hH, hHp]; exact fm_rf _ _ _
  rw [← hH] at hI ⊢
  clear hH
  have hl := lv_entry ([.ref ar, .int (kz v)]) (n := 4) (Nat.le_of_ble_eq_true rfl)
  rw [lg_entry_eq]
  generalize (lg_sl ([.ref ar, .int (kz v)]) ++ List.replicate (4 - (lg_sl ([.ref ar, .int (kz v)])).length) Slot.unset).toArray = ls at hl ⊢
  have hl : lv_has ls 4 [(0, .ref ar), (1, .int (kz v))] := hl
  refine lv_iconst (v := kz 0) hx hb dJ7_fill_53178_0 rfl ?_
  refine lv_istore_n (lv' := [(2, .int (kz 0)), (0, .ref ar), (1, .int (kz v))]) hx hb dJ7_fill_53178_1 rfl hl (by decide) rfl (fun ls hl => ?_)
  refine lv_aload_n hx hb dJ7_fill_53178_2 rfl (lv_at hl 1 rfl) ?_
  obtain ⟨f_1, c_f_1, k_f_1⟩ := iv_o20 (jv_iv hI) g_ar
  refine va_alen hx hb hK (at_P c_f_1) 0 0 rfl rfl (v := kz 40) rfl dJ7_fill_53178_3 ?_
  refine lv_istore_n (lv' := [(3, .int (kz 40)), (2, .int (kz 0)), (0, .ref ar), (1, .int (kz v))]) hx hb dJ7_fill_53178_4 rfl hl (by decide) rfl (fun ls hl => ?_)
  refine iz_loopA1 (α := Unit) (P := fun N9 _u9 k H locs ls => (0 ≤ k) ∧ (k ≤ 40) ∧ 40 - k ≤ (N9 : Int) ∧ lv_has ls 4 [(3, .int (kz 40)), (2, .int (kz k)), (0, .ref ar), (1, .int (kz v))] ∧ jv (dC, dI) ca A X H ∧ va_S A s.heap H locs ∧ kfm X [234] Hp H) 100000 () (x0 := 0) ?_ ⟨by omega, by omega, by omega, lv_sub hl [0, 1, 2, 3] rfl, hI, hS, hF⟩
  intro n_2 _u9 k H locs ls ⟨n_2f0, n_2f1, n_2f2, hl, hI, hS, hF⟩ ihn_2
  refine lv_iload_n hx hb dJ7_fill_53178_5 rfl (lv_at hl 1 rfl) ?_
  refine lv_iload_n hx hb dJ7_fill_53178_6 rfl (lv_at hl 0 rfl) ?_
  refine iz_ge (tgt := 20) hx hb dJ7_fill_53178_7 (by decide) (by unfold rg2; omega) (fun br_3 => ?_) (fun br_3 => ?_)
  · exact W.vret hx hb hr (fun t9 ht hW => ⟨⟨(), rfl, trivial, jK_warm hW ⟨hK, hN⟩, by rw [ht]; exact ⟨hI, hF⟩⟩, hS.F ht⟩) hS.2.2 dJ7_fill_53178_20
  · refine lv_aload_n hx hb dJ7_fill_53178_10 rfl (lv_at hl 2 rfl) ?_
    refine lv_iload_n hx hb dJ7_fill_53178_11 rfl (lv_at hl 1 rfl) ?_
    refine lv_iload_n hx hb dJ7_fill_53178_12 rfl (lv_at hl 3 rfl) ?_
    obtain ⟨f_4, c_f_4, k_f_4⟩ := iv_o20 (jv_iv hI) g_ar
    refine iz_any (fun z_5 z_5a z_5b z_5e => ?_)
    refine iz_iast hx hb hK 0 c_f_4 hS (jv_A hI g_ar (show (20 : Nat) ≠ 0 by decide)) rfl (by omega) (by decide) dJ7_fill_53178_13 (fun H locs c9 oq hS => ?_)
    have hI := jv_s20 hI g_ar k_f_4 c9 oq (by omega) (by omega) (by decide)
    have hF := fm_put hF g_ar (show (234 : Nat) ∈ [234] by decide) oq
    clear oq c9
    refine lv_iinc (v := kz (k + 1)) (lv' := [(2, .int (kz (k + 1))), (3, .int (kz 40)), (0, .ref ar), (1, .int (kz v))]) hx hb dJ7_fill_53178_14 hl (k := 1) rfl (kz_add k 1) (by decide) rfl (fun ls hl => ?_)
    refine lv_goto (tgt := 5) hx hb dJ7_fill_53178_17 (by decide) ?_
    exact ihn_2 (n_2 - 1) (by omega) () (k + 1) _ _ _ ⟨by omega, by omega, by omega, lv_sub hl [1, 0, 2, 3] rfl, hI, hS, hF⟩
set_option maxHeartbeats 4000000 in
set_option maxRecDepth 100000 in
/-- J7_fill_53178 -/
theorem c_fill236 (l : Launch) (dC : Nat → ClassId) (dI : Nat → Nat → Nat) (ca : Nat → ClassId) (A : Nat → Prop) (X : jG) (hU : jU X) (Hp : Heap) (ar : Nat) (v : Int) (g_ar : X.1 ar = (236, 20, 144, -2147483648, 2147483647)) : Met l yJ7_fill_53178 wsJ7_fill_53178 ({ frames := 0, cells := 0, slots := 0, locals := 0 }) (va_Pc [.ref ar, .int (kz v)] (fun U => U.heap = Hp ∧ jK (dC, dI) ca U ∧ jv (dC, dI) ca A X U.heap)) (va_Qv (fun (u : Unit) => True) (fun u U => jK (dC, dI) ca U ∧ jv (dC, dI) ca A X U.heap ∧ kfm X [236] Hp U.heap) A) 0 0 A := by
  refine Met.ofW (cc := cJ7_fill_53178) (maxL := 4) (ret := none) (by decide) rfl ?_
  intro p e s m args below meth c s₁ B hml hv
  obtain ⟨rfl, hHp, ⟨hK, hN⟩, hI⟩ := hv
  have hx := B.exec
  have hb := B.bytes
  have hr := B.returns
  have hts := atoms_spec (ws := wsJ7_fill_53178) B.pre
  have hown : s.vm.findClass RJ7 = some m.cls := findClass_of_methodNamed B.named
  obtain ⟨H, hH⟩ : ∃ H : Heap, H = s.heap := ⟨_, rfl⟩
  have hS : va_S A s.heap H [] := by rw [hH]; exact va_S.rf
  have hF : kfm X [236] Hp H := by rw [hH, hHp]; exact fm_rf _ _ _
  rw [← hH] at hI ⊢
  clear hH
  have hl := lv_entry ([.ref ar, .int (kz v)]) (n := 4) (Nat.le_of_ble_eq_true rfl)
  rw [lg_entry_eq]
  generalize (lg_sl ([.ref ar, .int (kz v)]) ++ List.replicate (4 - (lg_sl ([.ref ar, .int (kz v)])).length) Slot.unset).toArray = ls at hl ⊢
  have hl : lv_has ls 4 [(0, .ref ar), (1, .int (kz v))] := hl
  refine lv_iconst (v := kz 0) hx hb dJ7_fill_53178_0 rfl ?_
  refine lv_istore_n (lv' := [(2, .int (kz 0)), (0, .ref ar), (1, .int (kz v))]) hx hb dJ7_fill_53178_1 rfl hl (by decide) rfl (fun ls hl => ?_)
  refine lv_aload_n hx hb dJ7_fill_53178_2 rfl (lv_at hl 1 rfl) ?_
  obtain ⟨f_1, c_f_1, k_f_1⟩ := iv_o20 (jv_iv hI) g_ar
  refine va_alen hx hb hK (at_P c_f_1) 0 0 rfl rfl (v := kz 144) rfl dJ7_fill_53178_3 ?_
  refine lv_istore_n (lv' := [(3, .int (kz 144)), (2, .int (kz 0)), (0, .ref ar), (1, .int (kz v))]) hx hb dJ7_fill_53178_4 rfl hl (by decide) rfl (fun ls hl => ?_)
  refine iz_loopA1 (α := Unit) (P := fun N9 _u9 k H locs ls => (0 ≤ k) ∧ (k ≤ 144) ∧ 144 - k ≤ (N9 : Int) ∧ lv_has ls 4 [(3, .int (kz 144)), (2, .int (kz k)), (0, .ref ar), (1, .int (kz v))] ∧ jv (dC, dI) ca A X H ∧ va_S A s.heap H locs ∧ kfm X [236] Hp H) 100000 () (x0 := 0) ?_ ⟨by omega, by omega, by omega, lv_sub hl [0, 1, 2, 3] rfl, hI, hS, hF⟩
  intro n_2 _u9 k H locs ls ⟨n_2f0, n_2f1, n_2f2, hl, hI, hS, hF⟩ ihn_2
  refine lv_iload_n hx hb dJ7_fill_53178_5 rfl (lv_at hl 1 rfl) ?_
  refine lv_iload_n hx hb dJ7_fill_53178_6 rfl (lv_at hl 0 rfl) ?_
  refine iz_ge (tgt := 20) hx hb dJ7_fill_53178_7 (by decide) (by unfold rg2; omega) (fun br_3 => ?_) (fun br_3 => ?_)
  · exact W.vret hx hb hr (fun t9 ht hW => ⟨⟨(), rfl, trivial, jK_warm hW ⟨hK, hN⟩, by rw [ht]; exact ⟨hI, hF⟩⟩, hS.F ht⟩) hS.2.2 dJ7_fill_53178_20
  · refine lv_aload_n hx hb dJ7_fill_53178_10 rfl (lv_at hl 2 rfl) ?_
    refine lv_iload_n hx hb dJ7_fill_53178_11 rfl (lv_at hl 1 rfl) ?_
    refine lv_iload_n hx hb dJ7_fill_53178_12 rfl (lv_at hl 3 rfl) ?_
    obtain ⟨f_4, c_f_4, k_f_4⟩ := iv_o20 (jv_iv hI) g_ar
    refine iz_any (fun z_5 z_5a z_5b z_5e => ?_)
    refine iz_iast hx hb hK 0 c_f_4 hS (jv_A hI g_ar (show (20 : Nat) ≠ 0 by decide)) rfl (by omega) (by decide) dJ7_fill_53178_13 (fun H locs c9 oq hS => ?_)
    have hI := jv_s20 hI g_ar k_f_4 c9 oq (by omega) (by omega) (by decide)
    have hF := fm_put hF g_ar (show (236 : Nat) ∈ [236] by decide) oq
    clear oq c9
    refine lv_iinc (v := kz (k + 1)) (lv' := [(2, .int (kz (k + 1))), (3, .int (kz 144)), (0, .ref ar), (1, .int (kz v))]) hx hb dJ7_fill_53178_14 hl (k := 1) rfl (kz_add k 1) (by decide) rfl (fun ls hl => ?_)
    refine lv_goto (tgt := 5) hx hb dJ7_fill_53178_17 (by decide) ?_
    exact ihn_2 (n_2 - 1) (by omega) () (k + 1) _ _ _ ⟨by omega, by omega, by omega, lv_sub hl [1, 0, 2, 3] rfl, hI, hS, hF⟩
set_option maxHeartbeats 4000000 in
set_option maxRecDepth 100000 in
/-- J7_fill_d0a16 -/
theorem c_fill233 (l : Launch) (dC : Nat → ClassId) (dI : Nat → Nat → Nat) (ca : Nat → ClassId) (A : Nat → Prop) (X : jG) (hU : jU X) (Hp : Heap) (ar : Nat) (v : Int64) (g_ar : X.1 ar = (233, 23, 40, 0, 0)) : Met l yJ7_fill_d0a16 wsJ7_fill_d0a16 ({ frames := 0, cells := 0, slots := 0, locals := 0 }) (va_Pc [.ref ar, .long v] (fun U => U.heap = Hp ∧ jK (dC, dI) ca U ∧ jv (dC, dI) ca A X U.heap)) (va_Qv (fun (u : Unit) => True) (fun u U => jK (dC, dI) ca U ∧ jv (dC, dI) ca A X U.heap ∧ kfm X [233] Hp U.heap) A) 0 0 A := by
  refine Met.ofW (cc := cJ7_fill_d0a16) (maxL := 5) (ret := none) (by decide) rfl ?_
  intro p e s m args below meth c s₁ B hml hv
  obtain ⟨rfl, hHp, ⟨hK, hN⟩, hI⟩ := hv
  have hx := B.exec
  have hb := B.bytes
  have hr := B.returns
  have hts := atoms_spec (ws := wsJ7_fill_d0a16) B.pre
  have hown : s.vm.findClass RJ7 = some m.cls := findClass_of_methodNamed B.named
  obtain ⟨H, hH⟩ : ∃ H : Heap, H = s.heap := ⟨_, rfl⟩
  have hS : va_S A s.heap H [] := by rw [hH]; exact va_S.rf
  have hF : kfm X [233] Hp H := by rw [hH, hHp]; exact fm_rf _ _ _
  rw [← hH] at hI ⊢
  clear hH
  have hl := lv_entry ([.ref ar, .long v]) (n := 5) (Nat.le_of_ble_eq_true rfl)
  rw [lg_entry_eq]
  generalize (lg_sl ([.ref ar, .long v]) ++ List.replicate (5 - (lg_sl ([.ref ar, .long v])).length) Slot.unset).toArray = ls at hl ⊢
  have hl : lv_has ls 5 [(0, .ref ar), (1, .long v)] := hl
  refine lv_iconst (v := kz 0) hx hb dJ7_fill_d0a16_0 rfl ?_
  refine lv_istore_n (lv' := [(3, .int (kz 0)), (0, .ref ar), (1, .long v)]) hx hb dJ7_fill_d0a16_1 rfl hl (by decide) rfl (fun ls hl => ?_)
  refine lv_aload_n hx hb dJ7_fill_d0a16_2 rfl (lv_at hl 1 rfl) ?_
  obtain ⟨f_1, c_f_1⟩ := iv_o23 (jv_iv hI) g_ar
  refine va_alen hx hb hK (at_P c_f_1) 0 3 rfl rfl (v := kz 40) rfl dJ7_fill_d0a16_3 ?_
  refine lv_istore (lv' := [(4, .int (kz 40)), (3, .int (kz 0)), (0, .ref ar), (1, .long v)]) hx hb dJ7_fill_d0a16_4 hl (by decide) rfl (fun ls hl => ?_)
  refine iz_loopA1 (α := Unit) (P := fun N9 _u9 k H locs ls => (0 ≤ k) ∧ (k ≤ 40) ∧ 40 - k ≤ (N9 : Int) ∧ lv_has ls 5 [(4, .int (kz 40)), (3, .int (kz k)), (0, .ref ar), (1, .long v)] ∧ jv (dC, dI) ca A X H ∧ va_S A s.heap H locs ∧ kfm X [233] Hp H) 100000 () (x0 := 0) ?_ ⟨by omega, by omega, by omega, lv_sub hl [0, 1, 2, 3] rfl, hI, hS, hF⟩
  intro n_2 _u9 k H locs ls ⟨n_2f0, n_2f1, n_2f2, hl, hI, hS, hF⟩ ihn_2
  refine lv_iload_n hx hb dJ7_fill_d0a16_6 rfl (lv_at hl 1 rfl) ?_
  refine lv_iload hx hb dJ7_fill_d0a16_7 (lv_at hl 0 rfl) ?_
  refine iz_ge (tgt := 22) hx hb dJ7_fill_d0a16_9 (by decide) (by unfold rg2; omega) (fun br_3 => ?_) (fun br_3 => ?_)
  · exact W.vret hx hb hr (fun t9 ht hW => ⟨⟨(), rfl, trivial, jK_warm hW ⟨hK, hN⟩, by rw [ht]; exact ⟨hI, hF⟩⟩, hS.F ht⟩) hS.2.2 dJ7_fill_d0a16_22
  · refine lv_aload_n hx hb dJ7_fill_d0a16_12 rfl (lv_at hl 2 rfl) ?_
    refine lv_iload_n hx hb dJ7_fill_d0a16_13 rfl (lv_at hl 1 rfl) ?_
    refine lv_lload_n hx hb dJ7_fill_d0a16_14 rfl (lv_at hl 3 rfl) ?_
    obtain ⟨f_4, c_f_4⟩ := iv_o23 (jv_iv hI) g_ar
    refine iz_last hx hb hK 3 c_f_4 hS (jv_A hI g_ar (show (23 : Nat) ≠ 0 by decide)) rfl (by omega) (by decide) dJ7_fill_d0a16_15 (fun H locs c9 oq hS => ?_)
    have hI := jv_s23 hI g_ar c9 oq
    have hF := fm_put hF g_ar (show (233 : Nat) ∈ [233] by decide) oq
    clear oq c9
    refine lv_iinc (v := kz (k + 1)) (lv' := [(3, .int (kz (k + 1))), (4, .int (kz 40)), (0, .ref ar), (1, .long v)]) hx hb dJ7_fill_d0a16_16 hl (k := 1) rfl (kz_add k 1) (by decide) rfl (fun ls hl => ?_)
    refine lv_goto (tgt := 6) hx hb dJ7_fill_d0a16_19 (by decide) ?_
    exact ihn_2 (n_2 - 1) (by omega) () (k + 1) _ _ _ ⟨by omega, by omega, by omega, lv_sub hl [1, 0, 2, 3] rfl, hI, hS, hF⟩
set_option maxHeartbeats 4000000 in
set_option maxRecDepth 100000 in
/-- J7_fill_d0a16 -/
theorem c_fill235 (l : Launch) (dC : Nat → ClassId) (dI : Nat → Nat → Nat) (ca : Nat → ClassId) (A : Nat → Prop) (X : jG) (hU : jU X) (Hp : Heap) (ar : Nat) (v : Int64) (g_ar : X.1 ar = (235, 23, 144, 0, 0)) : Met l yJ7_fill_d0a16 wsJ7_fill_d0a16 ({ frames := 0, cells := 0, slots := 0, locals := 0 }) (va_Pc [.ref ar, .long v] (fun U => U.heap = Hp ∧ jK (dC, dI) ca U ∧ jv (dC, dI) ca A X U.heap)) (va_Qv (fun (u : Unit) => True) (fun u U => jK (dC, dI) ca U ∧ jv (dC, dI) ca A X U.heap ∧ kfm X [235] Hp U.heap) A) 0 0 A := by
  refine Met.ofW (cc := cJ7_fill_d0a16) (maxL := 5) (ret := none) (by decide) rfl ?_
  intro p e s m args below meth c s₁ B hml hv
  obtain ⟨rfl, hHp, ⟨hK, hN⟩, hI⟩ := hv
  have hx := B.exec
  have hb := B.bytes
  have hr := B.returns
  have hts := atoms_spec (ws := wsJ7_fill_d0a16) B.pre
  have hown : s.vm.findClass RJ7 = some m.cls := findClass_of_methodNamed B.named
  obtain ⟨H, hH⟩ : ∃ H : Heap, H = s.heap := ⟨_, rfl⟩
  have hS : va_S A s.heap H [] := by rw [hH]; exact va_S.rf
  have hF : kfm X [235] Hp H := by rw [hH, hHp]; exact fm_rf _ _ _
  rw [← hH] at hI ⊢
  clear hH
  have hl := lv_entry ([.ref ar, .long v]) (n := 5) (Nat.le_of_ble_eq_true rfl)
  rw [lg_entry_eq]
  generalize (lg_sl ([.ref ar, .long v]) ++ List.replicate (5 - (lg_sl ([.ref ar, .long v])).length) Slot.unset).toArray = ls at hl ⊢
  have hl : lv_has ls 5 [(0, .ref ar), (1, .long v)] := hl
  refine lv_iconst (v := kz 0) hx hb dJ7_fill_d0a16_0 rfl ?_
  refine lv_istore_n (lv' := [(3, .int (kz 0)), (0, .ref ar), (1, .long v)]) hx hb dJ7_fill_d0a16_1 rfl hl (by decide) rfl (fun ls hl => ?_)
  refine lv_aload_n hx hb dJ7_fill_d0a16_2 rfl (lv_at hl 1 rfl) ?_
  obtain ⟨f_1, c_f_1⟩ := iv_o23 (jv_iv hI) g_ar
  refine va_alen hx hb hK (at_P c_f_1) 0 3 rfl rfl (v := kz 144) rfl dJ7_fill_d0a16_3 ?_
  refine lv_istore (lv' := [(4, .int (kz 144)), (3, .int (kz 0)), (0, .ref ar), (1, .long v)]) hx hb dJ7_fill_d0a16_4 hl (by decide) rfl (fun ls hl => ?_)
  refine iz_loopA1 (α := Unit) (P := fun N9 _u9 k H locs ls => (0 ≤ k) ∧ (k ≤ 144) ∧ 144 - k ≤ (N9 : Int) ∧ lv_has ls 5 [(4, .int (kz 144)), (3, .int (kz k)), (0, .ref ar), (1, .long v)] ∧ jv (dC, dI) ca A X H ∧ va_S A s.heap H locs ∧ kfm X [235] Hp H) 100000 () (x0 := 0) ?_ ⟨by omega, by omega, by omega, lv_sub hl [0, 1, 2, 3] rfl, hI, hS, hF⟩
  intro n_2 _u9 k H locs ls ⟨n_2f0, n_2f1, n_2f2, hl, hI, hS, hF⟩ ihn_2
  refine lv_iload_n hx hb dJ7_fill_d0a16_6 rfl (lv_at hl 1 rfl) ?_
  refine lv_iload hx hb dJ7_fill_d0a16_7 (lv_at hl 0 rfl) ?_
  refine iz_ge (tgt := 22) hx hb dJ7_fill_d0a16_9 (by decide) (by unfold rg2; omega) (fun br_3 => ?_) (fun br_3 => ?_)
  · exact W.vret hx hb hr (fun t9 ht hW => ⟨⟨(), rfl, trivial, jK_warm hW ⟨hK, hN⟩, by rw [ht]; exact ⟨hI, hF⟩⟩, hS.F ht⟩) hS.2.2 dJ7_fill_d0a16_22
  · refine lv_aload_n hx hb dJ7_fill_d0a16_12 rfl (lv_at hl 2 rfl) ?_
    refine lv_iload_n hx hb dJ7_fill_d0a16_13 rfl (lv_at hl 1 rfl) ?_
    refine lv_lload_n hx hb dJ7_fill_d0a16_14 rfl (lv_at hl 3 rfl) ?_
    obtain ⟨f_4, c_f_4⟩ := iv_o23 (jv_iv hI) g_ar
    refine iz_last hx hb hK 3 c_f_4 hS (jv_A hI g_ar (show (23 : Nat) ≠ 0 by decide)) rfl (by omega) (by decide) dJ7_fill_d0a16_15 (fun H locs c9 oq hS => ?_)
    have hI := jv_s23 hI g_ar c9 oq
    have hF := fm_put hF g_ar (show (235 : Nat) ∈ [235] by decide) oq
    clear oq c9
    refine lv_iinc (v := kz (k + 1)) (lv' := [(3, .int (kz (k + 1))), (4, .int (kz 144)), (0, .ref ar), (1, .long v)]) hx hb dJ7_fill_d0a16_16 hl (k := 1) rfl (kz_add k 1) (by decide) rfl (fun ls hl => ?_)
    refine lv_goto (tgt := 6) hx hb dJ7_fill_d0a16_19 (by decide) ?_
    exact ihn_2 (n_2 - 1) (by omega) () (k + 1) _ _ _ ⟨by omega, by omega, by omega, lv_sub hl [1, 0, 2, 3] rfl, hI, hS, hF⟩
set_option maxHeartbeats 4000000 in
set_option maxRecDepth 100000 in
/-- J7_fill_d0a16 -/
theorem c_fill238 (l : Launch) (dC : Nat → ClassId) (dI : Nat → Nat → Nat) (ca : Nat → ClassId) (A : Nat → Prop) (X : jG) (hU : jU X) (Hp : Heap) (ar : Nat) (v : Int64) (g_ar : X.1 ar = (238, 23, 240, 0, 0)) : Met l yJ7_fill_d0a16 wsJ7_fill_d0a16 ({ frames := 0, cells := 0, slots := 0, locals := 0 }) (va_Pc [.ref ar, .long v] (fun U => U.heap = Hp ∧ jK (dC, dI) ca U ∧ jv (dC, dI) ca A X U.heap)) (va_Qv (fun (u : Unit) => True) (fun u U => jK (dC, dI) ca U ∧ jv (dC, dI) ca A X U.heap ∧ kfm X [238] Hp U.heap) A) 0 0 A := by
  refine Met.ofW (cc := cJ7_fill_d0a16) (maxL := 5) (ret := none) (by decide) rfl ?_
  intro p e s m args below meth c s₁ B hml hv
  obtain ⟨rfl, hHp, ⟨hK, hN⟩, hI⟩ := hv
  have hx := B.exec
  have hb := B.bytes
  have hr := B.returns
  have hts := atoms_spec (ws := wsJ7_fill_d0a16) B.pre
  have hown : s.vm.findClass RJ7 = some m.cls := findClass_of_methodNamed B.named
  obtain ⟨H, hH⟩ : ∃ H : Heap, H = s.heap := ⟨_, rfl⟩
  have hS : va_S A s.heap H [] := by rw [hH]; exact va_S.rf
  have hF : kfm X [238] Hp H := by rw [hH, hHp]; exact fm_rf _ _ _
  rw [← hH] at hI ⊢
  clear hH
  have hl := lv_entry ([.ref ar, .long v]) (n := 5) (Nat.le_of_ble_eq_true rfl)
  rw [lg_entry_eq]
  generalize (lg_sl ([.ref ar, .long v]) ++ List.replicate (5 - (lg_sl ([.ref ar, .long v])).length) Slot.unset).toArray = ls at hl ⊢
  have hl : lv_has ls 5 [(0, .ref ar), (1, .long v)] := hl
  refine lv_iconst (v := kz 0) hx hb dJ7_fill_d0a16_0 rfl ?_
  refine lv_istore_n (lv' := [(3, .int (kz 0)), (0, .ref ar), (1, .long v)]) hx hb dJ7_fill_d0a16_1 rfl hl (by decide) rfl (fun ls hl => ?_)
  refine lv_aload_n hx hb dJ7_fill_d0a16_2 rfl (lv_at hl 1 rfl) ?_
  obtain ⟨f_1, c_f_1⟩ := iv_o23 (jv_iv hI) g_ar
  refine va_alen hx hb hK (at_P c_f_1) 0 3 rfl rfl (v := kz 240) rfl dJ7_fill_d0a16_3 ?_
  refine lv_istore (lv' := [(4, .int (kz 240)), (3, .int (kz 0)), (0, .ref ar), (1, .long v)]) hx hb dJ7_fill_d0a16_4 hl (by decide) rfl (fun ls hl => ?_)
  refine iz_loopA1 (α := Unit) (P := fun N9 _u9 k H locs ls => (0 ≤ k) ∧ (k ≤ 240) ∧ 240 - k ≤ (N9 : Int) ∧ lv_has ls 5 [(4, .int (kz 240)), (3, .int (kz k)), (0, .ref ar), (1, .long v)] ∧ jv (dC, dI) ca A X H ∧ va_S A s.heap H locs ∧ kfm X [238] Hp H) 100000 () (x0 := 0) ?_ ⟨by omega, by omega, by omega, lv_sub hl [0, 1, 2, 3] rfl, hI, hS, hF⟩
  intro n_2 _u9 k H locs ls ⟨n_2f0, n_2f1, n_2f2, hl, hI, hS, hF⟩ ihn_2
  refine lv_iload_n hx hb dJ7_fill_d0a16_6 rfl (lv_at hl 1 rfl) ?_
  refine lv_iload hx hb dJ7_fill_d0a16_7 (lv_at hl 0 rfl) ?_
  refine iz_ge (tgt := 22) hx hb dJ7_fill_d0a16_9 (by decide) (by unfold rg2; omega) (fun br_3 => ?_) (fun br_3 => ?_)
  · exact W.vret hx hb hr (fun t9 ht hW => ⟨⟨(), rfl, trivial, jK_warm hW ⟨hK, hN⟩, by rw [ht]; exact ⟨hI, hF⟩⟩, hS.F ht⟩) hS.2.2 dJ7_fill_d0a16_22
  · refine lv_aload_n hx hb dJ7_fill_d0a16_12 rfl (lv_at hl 2 rfl) ?_
    refine lv_iload_n hx hb dJ7_fill_d0a16_13 rfl (lv_at hl 1 rfl) ?_
    refine lv_lload_n hx hb dJ7_fill_d0a16_14 rfl (lv_at hl 3 rfl) ?_
    obtain ⟨f_4, c_f_4⟩ := iv_o23 (jv_iv hI) g_ar
    refine iz_last hx hb hK 3 c_f_4 hS (jv_A hI g_ar (show (23 : Nat) ≠ 0 by decide)) rfl (by omega) (by decide) dJ7_fill_d0a16_15 (fun H locs c9 oq hS => ?_)
    have hI := jv_s23 hI g_ar c9 oq
    have hF := fm_put hF g_ar (show (238 : Nat) ∈ [238] by decide) oq
    clear oq c9
    refine lv_iinc (v := kz (k + 1)) (lv' := [(3, .int (kz (k + 1))), (4, .int (kz 240)), (0, .ref ar), (1, .long v)]) hx hb dJ7_fill_d0a16_16 hl (k := 1) rfl (kz_add k 1) (by decide) rfl (fun ls hl => ?_)
    refine lv_goto (tgt := 6) hx hb dJ7_fill_d0a16_19 (by decide) ?_
    exact ihn_2 (n_2 - 1) (by omega) () (k + 1) _ _ _ ⟨by omega, by omega, by omega, lv_sub hl [1, 0, 2, 3] rfl, hI, hS, hF⟩
set_option maxHeartbeats 4000000 in
set_option maxRecDepth 100000 in
/-- X3_fill -/
theorem c_fill (l : Launch) (dC : Nat → ClassId) (dI : Nat → Nat → Nat) (ca : Nat → ClassId) (A : Nat → Prop) (X : jG) (hU : jU X) (Hp : Heap) (a0 : Nat) (ct : Int) (g_a0 : X.1 a0 = (3, 30, 0, 0, 0)) (ctr : -2147483648 ≤ ct ∧ ct ≤ 2147483647) : Met l yX3_fill wsX3_fill ({ frames := 5, cells := 0, slots := 0, locals := 117 }) (va_Pc [.ref a0, .int (kz ct)] (fun U => U.heap = Hp ∧ jK (dC, dI) ca U ∧ jv (dC, dI) ca A X U.heap)) (va_Ql (fun (r : Int64) (u : Unit) => True) (fun u U => jK (dC, dI) ca U ∧ jv (dC, dI) ca A X U.heap ∧ kfm X [220, 225, 232, 233, 234, 235, 236] Hp U.heap) A) 0 0 A := by
  refine Met.ofW (cc := cX3_fill) (maxL := 5) (ret := (some .long)) (by decide) rfl ?_
  intro p e s m args below meth c s₁ B hml hv
  obtain ⟨rfl, hHp, ⟨hK, hN⟩, hI⟩ := hv
  have hx := B.exec
  have hb := B.bytes
  have hr := B.returns
  have hts := atoms_spec (ws := wsX3_fill) B.pre
  have hown : s.vm.findClass RX3 = some m.cls := findClass_of_methodNamed B.named
  have hL45 := hts (.fieldLink RX3 45 "JoinBench$Lattice" "barred" "[Z") (by decide +kernel)
  have hL49 := hts (.fieldLink RX3 49 "JoinBench$Lattice" "tongue" "LJoinBench$Tongue;") (by decide +kernel)
  have hL65 := hts (.fieldLink RX3 65 "JoinBench$Tongue" "forbidden" "[Z") (by decide +kernel)
  have hL16 := hts (.fieldLink RX3 16 "JoinBench$Lattice" "size" "I") (by decide +kernel)
  have hL30 := hts (.fieldLink RX3 30 "JoinBench$Lattice" "plainWays" "[[J") (by decide +kernel)
  have hL33 := hts (.fieldLink RX3 33 "JoinBench$Lattice" "plainCheapest" "[[I") (by decide +kernel)
  have hL36 := hts (.fieldLink RX3 36 "JoinBench$Lattice" "ruledWays" "[[J") (by decide +kernel)
  have hL39 := hts (.fieldLink RX3 39 "JoinBench$Lattice" "ruledCheapest" "[[I") (by decide +kernel)
  have hL78 := hts (.fieldLink RX3 78 "JoinBench$Tongue" "formCount" "I") (by decide +kernel)
  have hL81 := hts (.fieldLink RX3 81 "JoinBench$Tongue" "forms" "[LJoinBench$Form;") (by decide +kernel)
  have hL24 := hts (.fieldLink RX3 24 "JoinBench$Lattice" "ways" "[J") (by decide +kernel)
  have hinX3 : ∀ w ∈ u_ws RX3 TX3 11, w ∈ wsX3_fill := by decide +kernel
  have hinX9 : ∀ w ∈ u_ws RX9 TX9 5, w ∈ wsX3_fill := by decide +kernel
  obtain ⟨H, hH⟩ : ∃ H : Heap, H = s.heap := ⟨_, rfl⟩
  have hS : va_S A s.heap H [] := by rw [hH]; exact va_S.rf
  have hF : kfm X [220, 225, 232, 233, 234, 235, 236] Hp H := by rw [hH, hHp]; exact fm_rf _ _ _
  rw [← hH] at hI ⊢
  clear hH
  have hl := lv_entry ([.ref a0, .int (kz ct)]) (n := 5) (Nat.le_of_ble_eq_true rfl)
  rw [lg_entry_eq]
  generalize (lg_sl ([.ref a0, .int (kz ct)]) ++ List.replicate (5 - (lg_sl ([.ref a0, .int (kz ct)])).length) Slot.unset).toArray = ls at hl ⊢
  have hl : lv_has ls 5 [(0, .ref a0), (1, .int (kz ct))] := hl
  refine lv_iconst (v := kz 0) hx hb dX3_fill_0 rfl ?_
  refine lv_istore_n (lv' := [(2, .int (kz 0)), (0, .ref a0), (1, .int (kz ct))]) hx hb dX3_fill_1 rfl hl (by decide) rfl (fun ls hl => ?_)
  refine iz_loopA1 (α := Unit) (P := fun N9 _u9 k H locs ls => (0 ≤ k) ∧ (k ≤ 36) ∧ 36 - k ≤ (N9 : Int) ∧ lv_has ls 5 [(2, .int (kz k)), (0, .ref a0), (1, .int (kz ct))] ∧ jv (dC, dI) ca A X H ∧ va_S A s.heap H locs ∧ kfm X [220, 225, 232, 233, 234, 235, 236] Hp H) 100000 () (x0 := 0) ?_ ⟨by omega, by omega, by omega, lv_sub hl [0, 1, 2] rfl, hI, hS, hF⟩
  intro n_1 _u9 k H locs ls ⟨n_1f0, n_1f1, n_1f2, hl, hI, hS, hF⟩ ihn_1
  refine lv_iload_n hx hb dX3_fill_2 rfl (lv_at hl 0 rfl) ?_
  refine lv_bipush (v := kz 36) hx hb dX3_fill_3 (by decide) ?_
  refine iz_ge (tgt := 41) hx hb dX3_fill_5 (by decide) (by unfold rg2; omega) (fun br_2 => ?_) (fun br_2 => ?_)
  · refine lv_aload_n hx hb dX3_fill_41 rfl (lv_at hl 1 rfl) ?_
    obtain ⟨fs9, co_3, jo9⟩ := jv_o3 hI g_a0
    obtain ⟨cheapest_3, size_3, tongue_3, line_3, ways_3, plainWays_3, plainCheapest_3, ruledWays_3, ruledCheapest_3, inForce_3, barred_3, rfl, g_cheapest_3, ⟨size_3a, size_3b⟩, g_tongue_3, g_line_3, g_ways_3, g_plainWays_3, g_plainCheapest_3, g_ruledWays_3, g_ruledCheapest_3, ⟨inForce_3a, inForce_3b⟩, g_barred_3⟩ := jo9
    refine iz_get (D := (dC, dI)) (ci := 3) (v := .int (kz size_3)) (C := RX3) (T := TX3) (N := 11) hx hb hts hinX3 hown hK co_3 rfl 1 (by decide) hL16 (fun _ h9 => h9) rfl dX3_fill_42 ?_
    refine lv_iconst (v := kz 1) hx hb dX3_fill_45 rfl ?_
    refine iz_isub hx hb dX3_fill_46 ?_
    refine lv_istore_n (lv' := [(2, .int (kz (size_3 - 1))), (0, .ref a0), (1, .int (kz ct))]) hx hb dX3_fill_47 rfl hl (by decide) rfl (fun ls hl => ?_)
    refine iz_loopA1 (α := Unit) (P := fun N9 _u9 pl1 H locs ls => (-1 ≤ pl1) ∧ (pl1 ≤ 39) ∧ pl1 + 1 ≤ (N9 : Int) ∧ lv_has ls 5 [(2, .int (kz pl1)), (0, .ref a0), (1, .int (kz ct))] ∧ jv (dC, dI) ca A X H ∧ va_S A s.heap H locs ∧ kfm X [220, 225, 232, 233, 234, 235, 236] Hp H) 100000 () (x0 := (size_3 - 1)) ?_ ⟨by omega, by omega, by omega, lv_sub hl [0, 1, 2] rfl, hI, hS, hF⟩
    intro n_4 _u9 pl1 H locs ls ⟨n_4f0, n_4f1, n_4f2, hl, hI, hS, hF⟩ ihn_4
    refine lv_iload_n hx hb dX3_fill_48 rfl (lv_at hl 0 rfl) ?_
    refine iz_ltz (tgt := 147) hx hb dX3_fill_49 (by decide) (by unfold rg2; omega) (fun br_5 => ?_) (fun br_5 => ?_)
    · refine lv_lconst (v := 0) hx hb dX3_fill_147 (by decide) ?_
      refine lv_lstore_n (lv' := [(2, .long 0), (0, .ref a0), (1, .int (kz ct))]) hx hb dX3_fill_148 rfl hl (by decide) rfl (fun ls hl => ?_)
      refine lv_iconst (v := kz 0) hx hb dX3_fill_149 rfl ?_
      refine lv_istore (lv' := [(4, .int (kz 0)), (2, .long 0), (0, .ref a0), (1, .int (kz ct))]) hx hb dX3_fill_150 hl (by decide) rfl (fun ls hl => ?_)
      refine iz_loopA1 (α := Int64) (P := fun N9 sn k H locs ls => (0 ≤ k) ∧ (k ≤ 40) ∧ 40 - k ≤ (N9 : Int) ∧ lv_has ls 5 [(4, .int (kz k)), (2, .long sn), (0, .ref a0), (1, .int (kz ct))] ∧ jv (dC, dI) ca A X H ∧ va_S A s.heap H locs ∧ kfm X [220, 225, 232, 233, 234, 235, 236] Hp H) 100000 0 (x0 := 0) ?_ ⟨by omega, by omega, by omega, lv_sub hl [0, 1, 2, 3] rfl, hI, hS, hF⟩
      intro n_6 sn k H locs ls ⟨n_6f0, n_6f1, n_6f2, hl, hI, hS, hF⟩ ihn_6
      refine lv_iload hx hb dX3_fill_152 (lv_at hl 0 rfl) ?_
      refine lv_aload_n hx hb dX3_fill_154 rfl (lv_at hl 2 rfl) ?_
      obtain ⟨fs9, co_7, jo9⟩ := jv_o3 hI g_a0
      obtain ⟨cheapest_7, size_7, tongue_7, line_7, ways_7, plainWays_7, plainCheapest_7, ruledWays_7, ruledCheapest_7, inForce_7, barred_7, rfl, g_cheapest_7, ⟨size_7a, size_7b⟩, g_tongue_7, g_line_7, g_ways_7, g_plainWays_7, g_plainCheapest_7, g_ruledWays_7, g_ruledCheapest_7, ⟨inForce_7a, inForce_7b⟩, g_barred_7⟩ := jo9
      have e9 : cheapest_3 = cheapest_7 := jU_eq hU g_cheapest_3 g_cheapest_7 (show (27 : Nat) ≠ 0 by decide) (show uq 219 = true by decide)
      subst e9
      have e9 : tongue_3 = tongue_7 := jU_eq hU g_tongue_3 g_tongue_7 (show (30 : Nat) ≠ 0 by decide) (show uq 9 = true by decide)
      subst e9
      have e9 : line_3 = line_7 := jU_eq hU g_line_3 g_line_7 (show (21 : Nat) ≠ 0 by decide) (show uq 204 = true by decide)
      subst e9
      have e9 : ways_3 = ways_7 := jU_eq hU g_ways_3 g_ways_7 (show (23 : Nat) ≠ 0 by decide) (show uq 220 = true by decide)
      subst e9
      have e9 : plainWays_3 = plainWays_7 := jU_eq hU g_plainWays_3 g_plainWays_7 (show (28 : Nat) ≠ 0 by decide) (show uq 221 = true by decide)
      subst e9
      have e9 : plainCheapest_3 = plainCheapest_7 := jU_eq hU g_plainCheapest_3 g_plainCheapest_7 (show (27 : Nat) ≠ 0 by decide) (show uq 222 = true by decide)
      subst e9
      have e9 : ruledWays_3 = ruledWays_7 := jU_eq hU g_ruledWays_3 g_ruledWays_7 (show (28 : Nat) ≠ 0 by decide) (show uq 223 = true by decide)
      subst e9
      have e9 : ruledCheapest_3 = ruledCheapest_7 := jU_eq hU g_ruledCheapest_3 g_ruledCheapest_7 (show (27 : Nat) ≠ 0 by decide) (show uq 224 = true by decide)
      subst e9
      have e9 : barred_3 = barred_7 := jU_eq hU g_barred_3 g_barred_7 (show (22 : Nat) ≠ 0 by decide) (show uq 225 = true by decide)
      subst e9
      refine iz_get (D := (dC, dI)) (ci := 3) (v := .ref tongue_3) (C := RX3) (T := TX3) (N := 11) hx hb hts hinX3 hown hK co_7 rfl 2 (by decide) hL49 (fun _ h9 => h9) rfl dX3_fill_155 ?_
      obtain ⟨fs9, co_8, jo9⟩ := jv_o9 hI g_tongue_7
      obtain ⟨forms_8, rules_8, formCount_8, ruleCount_8, forbidden_8, rfl, g_forms_8, g_rules_8, ⟨formCount_8a, formCount_8b⟩, ⟨ruleCount_8a, ruleCount_8b⟩, g_forbidden_8, x_8_0, x_8_1, x_8_2⟩ := jo9
      refine iz_get (D := (dC, dI)) (ci := 9) (v := .int (kz formCount_8)) (C := RX9) (T := TX9) (N := 5) hx hb hts hinX9 hown hK co_8 rfl 2 (by decide) hL78 (fun _ h9 => h9) rfl dX3_fill_158 ?_
      refine iz_ge (tgt := 185) hx hb dX3_fill_161 (by decide) (by unfold rg2; omega) (fun br_9 => ?_) (fun br_9 => ?_)
      · refine lv_lload_n hx hb dX3_fill_185 rfl (lv_at hl 1 rfl) ?_
        exact W.lret (v := sn) hx hb hr (fun t9 ht hW => ⟨⟨sn, (), rfl, trivial, jK_warm hW ⟨hK, hN⟩, by rw [ht]; exact ⟨hI, hF⟩⟩, hS.F ht⟩) hS.2.2 dX3_fill_186
      · refine lv_lload_n hx hb dX3_fill_164 rfl (lv_at hl 1 rfl) ?_
        refine lv_aload_n hx hb dX3_fill_165 rfl (lv_at hl 2 rfl) ?_
        refine iz_get (D := (dC, dI)) (ci := 3) (v := .ref ways_3) (C := RX3) (T := TX3) (N := 11) hx hb hts hinX3 hown hK co_7 rfl 4 (by decide) hL24 (fun _ h9 => h9) rfl dX3_fill_166 ?_
        refine lv_iload hx hb dX3_fill_169 (lv_at hl 0 rfl) ?_
        refine lv_iconst (v := kz 4) hx hb dX3_fill_171 rfl ?_
        refine iz_imul hx hb dX3_fill_172 ?_
        obtain ⟨f_10, c_f_10⟩ := iv_o23 (jv_iv hI) g_ways_7
        refine iz_lald hx hb hK 3 c_f_10 rfl (by omega) (by decide) dX3_fill_173 ?_
        refine lv_topl (fun y_11 ey_11 => ?_)
        refine lv_ladd hx hb dX3_fill_174 ?_
        refine lv_topl (fun y_12 ey_12 => ?_)
        refine vp_callSl (va_Run.run (va_runSN (As := [.long y_12]) (rest := []) ⟨hx, hb, hml, hown, hts⟩ (c_capped l y_12) ⟨va_cnB 1 hts gX3_fill_X11_capped_n92 rfl rfl rfl (jN_X3_92 hN) (hts (.initialized RX11) (by decide +kernel)) (by decide +kernel) ⟨Nat.le_of_ble_eq_true rfl, Nat.le_of_ble_eq_true rfl⟩, hts (.static yX11_capped) (by decide +kernel), trivial⟩ ⟨fun a U g mk q => q, fun U hU hW => ⟨rfl, trivial⟩⟩ rfl rfl hl.1 rfl (lv_room (Nat.le_of_ble_eq_true rfl)) dX3_fill_175 ⟨Nat.le_of_ble_eq_true rfl, Nat.le_of_ble_eq_true rfl⟩)) (fun r_14 hw_13 => ?_)
        refine lv_lstore_n (lv' := [(2, .long r_14), (4, .int (kz k)), (0, .ref a0), (1, .int (kz ct))]) hx hb dX3_fill_178 rfl hl (by decide) rfl (fun ls hl => ?_)
        refine lv_iinc (v := kz (k + 1)) (lv' := [(4, .int (kz (k + 1))), (2, .long r_14), (0, .ref a0), (1, .int (kz ct))]) hx hb dX3_fill_179 hl (k := 1) rfl (kz_add k 1) (by decide) rfl (fun ls hl => ?_)
        refine lv_goto (tgt := 152) hx hb dX3_fill_182 (by decide) ?_
        exact ihn_6 (n_6 - 1) (by omega) r_14 (k + 1) _ _ _ ⟨by omega, by omega, by omega, lv_sub hl [0, 1, 2, 3] rfl, hI, hS, hF⟩
    · refine lv_aload_n hx hb dX3_fill_52 rfl (lv_at hl 1 rfl) ?_
      obtain ⟨fs9, co_15, jo9⟩ := jv_o3 hI g_a0
      obtain ⟨cheapest_15, size_15, tongue_15, line_15, ways_15, plainWays_15, plainCheapest_15, ruledWays_15, ruledCheapest_15, inForce_15, barred_15, rfl, g_cheapest_15, ⟨size_15a, size_15b⟩, g_tongue_15, g_line_15, g_ways_15, g_plainWays_15, g_plainCheapest_15, g_ruledWays_15, g_ruledCheapest_15, ⟨inForce_15a, inForce_15b⟩, g_barred_15⟩ := jo9
      have e9 : cheapest_3 = cheapest_15 := jU_eq hU g_cheapest_3 g_cheapest_15 (show (27 : Nat) ≠ 0 by decide) (show uq 219 = true by decide)
      subst e9
      have e9 : tongue_3 = tongue_15 := jU_eq hU g_tongue_3 g_tongue_15 (show (30 : Nat) ≠ 0 by decide) (show uq 9 = true by decide)
      subst e9
      have e9 : line_3 = line_15 := jU_eq hU g_line_3 g_line_15 (show (21 : Nat) ≠ 0 by decide) (show uq 204 = true by decide)
      subst e9
      have e9 : ways_3 = ways_15 := jU_eq hU g_ways_3 g_ways_15 (show (23 : Nat) ≠ 0 by decide) (show uq 220 = true by decide)
      subst e9
      have e9 : plainWays_3 = plainWays_15 := jU_eq hU g_plainWays_3 g_plainWays_15 (show (28 : Nat) ≠ 0 by decide) (show uq 221 = true by decide)
      subst e9
      have e9 : plainCheapest_3 = plainCheapest_15 := jU_eq hU g_plainCheapest_3 g_plainCheapest_15 (show (27 : Nat) ≠ 0 by decide) (show uq 222 = true by decide)
      subst e9
      have e9 : ruledWays_3 = ruledWays_15 := jU_eq hU g_ruledWays_3 g_ruledWays_15 (show (28 : Nat) ≠ 0 by decide) (show uq 223 = true by decide)
      subst e9
      have e9 : ruledCheapest_3 = ruledCheapest_15 := jU_eq hU g_ruledCheapest_3 g_ruledCheapest_15 (show (27 : Nat) ≠ 0 by decide) (show uq 224 = true by decide)
      subst e9
      have e9 : barred_3 = barred_15 := jU_eq hU g_barred_3 g_barred_15 (show (22 : Nat) ≠ 0 by decide) (show uq 225 = true by decide)
      subst e9
      refine iz_get (D := (dC, dI)) (ci := 3) (v := .ref plainWays_3) (C := RX3) (T := TX3) (N := 11) hx hb hts hinX3 hown hK co_15 rfl 5 (by decide) hL30 (fun _ h9 => h9) rfl dX3_fill_53 ?_
      refine lv_iload_n hx hb dX3_fill_56 rfl (lv_at hl 0 rfl) ?_
      obtain ⟨f_16, c_f_16, k_f_16⟩ := jv_q28 hI g_plainWays_15
      refine jz_aald hx hb hK 8 c_f_16 rfl rfl (by omega) (by decide) dX3_fill_57 ?_
      obtain ⟨b_17, eb_17, g_b_17⟩ := k_f_16 (Int.toNat pl1) (by omega)
      rw [eb_17]
      have g_b_17 : X.1 b_17 = (233, 23, 40, 0, 0) := g_b_17
      refine W.eq (g2 := F0 m 58 ls [.ref b_17]) rfl ?_
      refine lv_lconst (v := 0) hx hb dX3_fill_58 (by decide) ?_
      refine va_callv (va_runS (As := [.ref b_17, .long 0]) (rest := []) ⟨hx, hb, hml, hown, hts⟩ (c_fill233 l dC dI ca A X hU H b_17 0 g_b_17) (va_cwS 2 hts gX3_fill_J7_fill_d0a16 rfl rfl rfl (by decide +kernel) ⟨Nat.le_of_ble_eq_true rfl, Nat.le_of_ble_eq_true rfl⟩) ⟨fun a U g mk q => by obtain ⟨q0, qH, ⟨qK, qN⟩, qI⟩ := q; exact ⟨q0, qH, ⟨va_K.moved (u := U) (U := U.calling g mk a) (Vm.Alike.refl U.vm) qK, jN_same (U := U.calling g mk a) rfl qN⟩, qI⟩, fun U hU hW => ⟨rfl, hU, jK_warm hW ⟨hK, hN⟩, by rw [hU]; exact hI⟩⟩ rfl rfl hl.1 rfl (lv_room (Nat.le_of_ble_eq_true rfl)) dX3_fill_59 ⟨Nat.le_of_ble_eq_true rfl, Nat.le_of_ble_eq_true rfl⟩) hS (fun q _ h => h) (fun q h => h) (fun u t9 H locs ht hvm hw_18 hB hz1 hk1 hS => ?_)
      obtain ⟨-, hI, hf9⟩ := hB
      rw [ht] at hI hf9
      clear ht hvm hz1
      have co_15 := fm_at hf9 g_a0 (show (3 : Nat) ∉ ([233] : List Nat) by decide) co_15
      have c_f_16 := fm_at hf9 g_plainWays_15 (show (221 : Nat) ∉ ([233] : List Nat) by decide) c_f_16
      have hF := fm_tr hF hf9 (by decide)
      clear hk1 hf9
      refine lv_aload_n hx hb dX3_fill_62 rfl (lv_at hl 1 rfl) ?_
      refine iz_get (D := (dC, dI)) (ci := 3) (v := .ref plainCheapest_3) (C := RX3) (T := TX3) (N := 11) hx hb hts hinX3 hown hK co_15 rfl 6 (by decide) hL33 (fun _ h9 => h9) rfl dX3_fill_63 ?_
      refine lv_iload_n hx hb dX3_fill_66 rfl (lv_at hl 0 rfl) ?_
      obtain ⟨f_20, c_f_20, k_f_20⟩ := jv_q27 hI g_plainCheapest_15
      refine jz_aald hx hb hK 7 c_f_20 rfl rfl (by omega) (by decide) dX3_fill_67 ?_
      obtain ⟨b_21, eb_21, g_b_21⟩ := k_f_20 (Int.toNat pl1) (by omega)
      rw [eb_21]
      have g_b_21 : X.1 b_21 = (234, 20, 40, -2147483648, 2147483647) := g_b_21
      refine W.eq (g2 := F0 m 68 ls [.ref b_21]) rfl ?_
      refine lv_ldc (own := RX3) (v := kz 1048576) hx hb hown (hts (.constant RX3 74 (kz 1048576)) (by decide +kernel)) dX3_fill_68 ?_
      refine va_callv (va_runS (As := [.ref b_21, .int (kz 1048576)]) (rest := []) ⟨hx, hb, hml, hown, hts⟩ (c_fill234 l dC dI ca A X hU H b_21 1048576 g_b_21) (va_cwS 2 hts gX3_fill_J7_fill_53178 rfl rfl rfl (by decide +kernel) ⟨Nat.le_of_ble_eq_true rfl, Nat.le_of_ble_eq_true rfl⟩) ⟨fun a U g mk q => by obtain ⟨q0, qH, ⟨qK, qN⟩, qI⟩ := q; exact ⟨q0, qH, ⟨va_K.moved (u := U) (U := U.calling g mk a) (Vm.Alike.refl U.vm) qK, jN_same (U := U.calling g mk a) rfl qN⟩, qI⟩, fun U hU hW => ⟨rfl, hU, jK_warm hW ⟨hK, hN⟩, by rw [hU]; exact hI⟩⟩ rfl rfl hl.1 rfl (lv_room (Nat.le_of_ble_eq_true rfl)) dX3_fill_70 ⟨Nat.le_of_ble_eq_true rfl, Nat.le_of_ble_eq_true rfl⟩) hS (fun q _ h => h) (fun q h => h) (fun u t9 H locs ht hvm hw_22 hB hz1 hk1 hS => ?_)
      obtain ⟨-, hI, hf9⟩ := hB
      rw [ht] at hI hf9
      clear ht hvm hz1
      have co_15 := fm_at hf9 g_a0 (show (3 : Nat) ∉ ([234] : List Nat) by decide) co_15
      have c_f_16 := fm_at hf9 g_plainWays_15 (show (221 : Nat) ∉ ([234] : List Nat) by decide) c_f_16
      have c_f_20 := fm_at hf9 g_plainCheapest_15 (show (222 : Nat) ∉ ([234] : List Nat) by decide) c_f_20
      have hF := fm_tr hF hf9 (by decide)
      clear hk1 hf9
      refine lv_aload_n hx hb dX3_fill_73 rfl (lv_at hl 1 rfl) ?_
      refine iz_get (D := (dC, dI)) (ci := 3) (v := .ref ruledWays_3) (C := RX3) (T := TX3) (N := 11) hx hb hts hinX3 hown hK co_15 rfl 7 (by decide) hL36 (fun _ h9 => h9) rfl dX3_fill_74 ?_
      refine lv_iload_n hx hb dX3_fill_77 rfl (lv_at hl 0 rfl) ?_
      obtain ⟨f_24, c_f_24, k_f_24⟩ := jv_q28 hI g_ruledWays_15
      refine jz_aald hx hb hK 8 c_f_24 rfl rfl (by omega) (by decide) dX3_fill_78 ?_
      obtain ⟨b_25, eb_25, g_b_25⟩ := k_f_24 (Int.toNat pl1) (by omega)
      rw [eb_25]
      have g_b_25 : X.1 b_25 = (235, 23, 144, 0, 0) := g_b_25
      refine W.eq (g2 := F0 m 79 ls [.ref b_25]) rfl ?_
      refine lv_lconst (v := 0) hx hb dX3_fill_79 (by decide) ?_
      refine va_callv (va_runS (As := [.ref b_25, .long 0]) (rest := []) ⟨hx, hb, hml, hown, hts⟩ (c_fill235 l dC dI ca A X hU H b_25 0 g_b_25) (va_cwS 2 hts gX3_fill_J7_fill_d0a16 rfl rfl rfl (by decide +kernel) ⟨Nat.le_of_ble_eq_true rfl, Nat.le_of_ble_eq_true rfl⟩) ⟨fun a U g mk q => by obtain ⟨q0, qH, ⟨qK, qN⟩, qI⟩ := q; exact ⟨q0, qH, ⟨va_K.moved (u := U) (U := U.calling g mk a) (Vm.Alike.refl U.vm) qK, jN_same (U := U.calling g mk a) rfl qN⟩, qI⟩, fun U hU hW => ⟨rfl, hU, jK_warm hW ⟨hK, hN⟩, by rw [hU]; exact hI⟩⟩ rfl rfl hl.1 rfl (lv_room (Nat.le_of_ble_eq_true rfl)) dX3_fill_80 ⟨Nat.le_of_ble_eq_true rfl, Nat.le_of_ble_eq_true rfl⟩) hS (fun q _ h => h) (fun q h => h) (fun u t9 H locs ht hvm hw_26 hB hz1 hk1 hS => ?_)
      obtain ⟨-, hI, hf9⟩ := hB
      rw [ht] at hI hf9
      clear ht hvm hz1
      have co_15 := fm_at hf9 g_a0 (show (3 : Nat) ∉ ([235] : List Nat) by decide) co_15
      have c_f_16 := fm_at hf9 g_plainWays_15 (show (221 : Nat) ∉ ([235] : List Nat) by decide) c_f_16
      have c_f_20 := fm_at hf9 g_plainCheapest_15 (show (222 : Nat) ∉ ([235] : List Nat) by decide) c_f_20
      have c_f_24 := fm_at hf9 g_ruledWays_15 (show (223 : Nat) ∉ ([235] : List Nat) by decide) c_f_24
      have hF := fm_tr hF hf9 (by decide)
      clear hk1 hf9
      refine lv_aload_n hx hb dX3_fill_83 rfl (lv_at hl 1 rfl) ?_
      refine iz_get (D := (dC, dI)) (ci := 3) (v := .ref ruledCheapest_3) (C := RX3) (T := TX3) (N := 11) hx hb hts hinX3 hown hK co_15 rfl 8 (by decide) hL39 (fun _ h9 => h9) rfl dX3_fill_84 ?_
      refine lv_iload_n hx hb dX3_fill_87 rfl (lv_at hl 0 rfl) ?_
      obtain ⟨f_28, c_f_28, k_f_28⟩ := jv_q27 hI g_ruledCheapest_15
      refine jz_aald hx hb hK 7 c_f_28 rfl rfl (by omega) (by decide) dX3_fill_88 ?_
      obtain ⟨b_29, eb_29, g_b_29⟩ := k_f_28 (Int.toNat pl1) (by omega)
      rw [eb_29]
      have g_b_29 : X.1 b_29 = (236, 20, 144, -2147483648, 2147483647) := g_b_29
      refine W.eq (g2 := F0 m 89 ls [.ref b_29]) rfl ?_
      refine lv_ldc (own := RX3) (v := kz 1048576) hx hb hown (hts (.constant RX3 74 (kz 1048576)) (by decide +kernel)) dX3_fill_89 ?_
      refine va_callv (va_runS (As := [.ref b_29, .int (kz 1048576)]) (rest := []) ⟨hx, hb, hml, hown, hts⟩ (c_fill236 l dC dI ca A X hU H b_29 1048576 g_b_29) (va_cwS 2 hts gX3_fill_J7_fill_53178 rfl rfl rfl (by decide +kernel) ⟨Nat.le_of_ble_eq_true rfl, Nat.le_of_ble_eq_true rfl⟩) ⟨fun a U g mk q => by obtain ⟨q0, qH, ⟨qK, qN⟩, qI⟩ := q; exact ⟨q0, qH, ⟨va_K.moved (u := U) (U := U.calling g mk a) (Vm.Alike.refl U.vm) qK, jN_same (U := U.calling g mk a) rfl qN⟩, qI⟩, fun U hU hW => ⟨rfl, hU, jK_warm hW ⟨hK, hN⟩, by rw [hU]; exact hI⟩⟩ rfl rfl hl.1 rfl (lv_room (Nat.le_of_ble_eq_true rfl)) dX3_fill_91 ⟨Nat.le_of_ble_eq_true rfl, Nat.le_of_ble_eq_true rfl⟩) hS (fun q _ h => h) (fun q h => h) (fun u t9 H locs ht hvm hw_30 hB hz1 hk1 hS => ?_)
      obtain ⟨-, hI, hf9⟩ := hB
      rw [ht] at hI hf9
      clear ht hvm hz1
      have co_15 := fm_at hf9 g_a0 (show (3 : Nat) ∉ ([236] : List Nat) by decide) co_15
      have c_f_16 := fm_at hf9 g_plainWays_15 (show (221 : Nat) ∉ ([236] : List Nat) by decide) c_f_16
      have c_f_20 := fm_at hf9 g_plainCheapest_15 (show (222 : Nat) ∉ ([236] : List Nat) by decide) c_f_20
      have c_f_24 := fm_at hf9 g_ruledWays_15 (show (223 : Nat) ∉ ([236] : List Nat) by decide) c_f_24
      have c_f_28 := fm_at hf9 g_ruledCheapest_15 (show (224 : Nat) ∉ ([236] : List Nat) by decide) c_f_28
      have hF := fm_tr hF hf9 (by decide)
      clear hk1 hf9
      refine lv_iconst (v := kz 0) hx hb dX3_fill_94 rfl ?_
      refine lv_istore_n (lv' := [(3, .int (kz 0)), (2, .int (kz pl1)), (0, .ref a0), (1, .int (kz ct))]) hx hb dX3_fill_95 rfl hl (by decide) rfl (fun ls hl => ?_)
      refine iz_loopA1 (α := Unit) (P := fun N9 _u9 k H locs ls => (0 ≤ k) ∧ (k ≤ 40) ∧ 40 - k ≤ (N9 : Int) ∧ lv_has ls 5 [(3, .int (kz k)), (2, .int (kz pl1)), (0, .ref a0), (1, .int (kz ct))] ∧ jv (dC, dI) ca A X H ∧ va_S A s.heap H locs ∧ kfm X [220, 225, 232, 233, 234, 235, 236] Hp H) 100000 () (x0 := 0) ?_ ⟨by omega, by omega, by omega, lv_sub hl [0, 1, 2, 3] rfl, hI, hS, hF⟩
      intro n_32 _u9 k H locs ls ⟨n_32f0, n_32f1, n_32f2, hl, hI, hS, hF⟩ ihn_32
      refine lv_iload_n hx hb dX3_fill_96 rfl (lv_at hl 0 rfl) ?_
      refine lv_aload_n hx hb dX3_fill_97 rfl (lv_at hl 2 rfl) ?_
      obtain ⟨fs9, co_33, jo9⟩ := jv_o3 hI g_a0
      obtain ⟨cheapest_33, size_33, tongue_33, line_33, ways_33, plainWays_33, plainCheapest_33, ruledWays_33, ruledCheapest_33, inForce_33, barred_33, rfl, g_cheapest_33, ⟨size_33a, size_33b⟩, g_tongue_33, g_line_33, g_ways_33, g_plainWays_33, g_plainCheapest_33, g_ruledWays_33, g_ruledCheapest_33, ⟨inForce_33a, inForce_33b⟩, g_barred_33⟩ := jo9
      have e9 : cheapest_3 = cheapest_33 := jU_eq hU g_cheapest_3 g_cheapest_33 (show (27 : Nat) ≠ 0 by decide) (show uq 219 = true by decide)
      subst e9
      have e9 : tongue_3 = tongue_33 := jU_eq hU g_tongue_3 g_tongue_33 (show (30 : Nat) ≠ 0 by decide) (show uq 9 = true by decide)
      subst e9
      have e9 : line_3 = line_33 := jU_eq hU g_line_3 g_line_33 (show (21 : Nat) ≠ 0 by decide) (show uq 204 = true by decide)
      subst e9
      have e9 : ways_3 = ways_33 := jU_eq hU g_ways_3 g_ways_33 (show (23 : Nat) ≠ 0 by decide) (show uq 220 = true by decide)
      subst e9
      have e9 : plainWays_3 = plainWays_33 := jU_eq hU g_plainWays_3 g_plainWays_33 (show (28 : Nat) ≠ 0 by decide) (show uq 221 = true by decide)
      subst e9
      have e9 : plainCheapest_3 = plainCheapest_33 := jU_eq hU g_plainCheapest_3 g_plainCheapest_33 (show (27 : Nat) ≠ 0 by decide) (show uq 222 = true by decide)
      subst e9
      have e9 : ruledWays_3 = ruledWays_33 := jU_eq hU g_ruledWays_3 g_ruledWays_33 (show (28 : Nat) ≠ 0 by decide) (show uq 223 = true by decide)
      subst e9
      have e9 : ruledCheapest_3 = ruledCheapest_33 := jU_eq hU g_ruledCheapest_3 g_ruledCheapest_33 (show (27 : Nat) ≠ 0 by decide) (show uq 224 = true by decide)
      subst e9
      have e9 : barred_3 = barred_33 := jU_eq hU g_barred_3 g_barred_33 (show (22 : Nat) ≠ 0 by decide) (show uq 225 = true by decide)
      subst e9
      refine iz_get (D := (dC, dI)) (ci := 3) (v := .ref tongue_3) (C := RX3) (T := TX3) (N := 11) hx hb hts hinX3 hown hK co_33 rfl 2 (by decide) hL49 (fun _ h9 => h9) rfl dX3_fill_98 ?_
      obtain ⟨fs9, co_34, jo9⟩ := jv_o9 hI g_tongue_33
      obtain ⟨forms_34, rules_34, formCount_34, ruleCount_34, forbidden_34, rfl, g_forms_34, g_rules_34, ⟨formCount_34a, formCount_34b⟩, ⟨ruleCount_34a, ruleCount_34b⟩, g_forbidden_34, x_34_0, x_34_1, x_34_2⟩ := jo9
      refine iz_get (D := (dC, dI)) (ci := 9) (v := .int (kz formCount_34)) (C := RX9) (T := TX9) (N := 5) hx hb hts hinX9 hown hK co_34 rfl 2 (by decide) hL78 (fun _ h9 => h9) rfl dX3_fill_101 ?_
      refine iz_ge (tgt := 141) hx hb dX3_fill_104 (by decide) (by unfold rg2; omega) (fun br_35 => ?_) (fun br_35 => ?_)
      · refine lv_iinc (v := kz (pl1 + (-1))) (lv' := [(2, .int (kz (pl1 + (-1)))), (3, .int (kz k)), (0, .ref a0), (1, .int (kz ct))]) hx hb dX3_fill_141 hl (k := 1) rfl (kz_add pl1 (-1)) (by decide) rfl (fun ls hl => ?_)
        refine lv_goto (tgt := 48) hx hb dX3_fill_144 (by decide) ?_
        exact ihn_4 (n_4 - 1) (by omega) () (pl1 + (-1)) _ _ _ ⟨by omega, by omega, by omega, lv_sub hl [0, 2, 3] rfl, hI, hS, hF⟩
      · refine lv_aload_n hx hb dX3_fill_107 rfl (lv_at hl 2 rfl) ?_
        refine lv_iload_n hx hb dX3_fill_108 rfl (lv_at hl 1 rfl) ?_
        refine lv_aload_n hx hb dX3_fill_109 rfl (lv_at hl 2 rfl) ?_
        refine iz_get (D := (dC, dI)) (ci := 3) (v := .ref tongue_3) (C := RX3) (T := TX3) (N := 11) hx hb hts hinX3 hown hK co_33 rfl 2 (by decide) hL49 (fun _ h9 => h9) rfl dX3_fill_110 ?_
        refine iz_get (D := (dC, dI)) (ci := 9) (v := .ref forms_34) (C := RX9) (T := TX9) (N := 5) hx hb hts hinX9 hown hK co_34 rfl 0 (by decide) hL81 (fun _ h9 => h9) rfl dX3_fill_113 ?_
        refine lv_iload_n hx hb dX3_fill_116 rfl (lv_at hl 0 rfl) ?_
        obtain ⟨f_36, c_f_36, k_f_36⟩ := jv_q24 hI g_forms_34
        refine jz_aald hx hb hK 4 c_f_36 rfl rfl (by omega) (by decide) dX3_fill_117 ?_
        obtain ⟨b_37, eb_37⟩ : ∃ b9 : Nat, f_36 (Int.toNat k) = some b9 := Option.ne_none_iff_exists'.mp ((k_f_36 (Int.toNat k) (by omega)).2 (by omega))
        have g_b_37 := (k_f_36 (Int.toNat k) (by omega)).1 b_37 eb_37
        rw [eb_37]
        refine W.eq (g2 := F0 m 118 ls [.ref b_37, .int (kz pl1), .ref a0]) rfl ?_
        refine va_callv (va_runV (As := [.int (kz pl1), .ref b_37]) (rest := []) ⟨hx, hb, hml, hown, hts⟩ (c_setForm l dC dI ca A X hU H a0 pl1 b_37 g_a0 g_b_37 (by omega)) (cwV 2 hts gX3_fill_X3_setForm rfl rfl rfl (by decide +kernel) ⟨Nat.le_of_ble_eq_true rfl, Nat.le_of_ble_eq_true rfl⟩) ⟨fun a U g mk q => by obtain ⟨q0, qH, ⟨qK, qN⟩, qI⟩ := q; exact ⟨q0, qH, ⟨va_K.moved (u := U) (U := U.calling g mk a) (Vm.Alike.refl U.vm) qK, jN_same (U := U.calling g mk a) rfl qN⟩, qI⟩, va_recv hK (at_P co_33) (ci := 3) (q0 := 0) rfl rfl, fun U hU hW => ⟨rfl, hU, jK_warm hW ⟨hK, hN⟩, by rw [hU]; exact hI⟩⟩ rfl rfl hl.1 rfl (lv_room (Nat.le_of_ble_eq_true rfl)) dX3_fill_118 ⟨Nat.le_of_ble_eq_true rfl, Nat.le_of_ble_eq_true rfl⟩) hS (fun q _ h => h) (fun q h => h) (fun u t9 H locs ht hvm hw_38 hB hz1 hk1 hS => ?_)
        obtain ⟨-, hI, hf9⟩ := hB
        rw [ht] at hI hf9
        clear ht hvm hz1
        have co_33 := fm_at hf9 g_a0 (show (3 : Nat) ∉ ([220, 232] : List Nat) by decide) co_33
        have co_34 := fm_at hf9 g_tongue_33 (show (9 : Nat) ∉ ([220, 232] : List Nat) by decide) co_34
        have c_f_36 := fm_at hf9 g_forms_34 (show (212 : Nat) ∉ ([220, 232] : List Nat) by decide) c_f_36
        have hF := fm_tr hF hf9 (by decide)
        clear hk1 hf9
        refine lv_aload_n hx hb dX3_fill_121 rfl (lv_at hl 2 rfl) ?_
        refine lv_iload_n hx hb dX3_fill_122 rfl (lv_at hl 1 rfl) ?_
        refine lv_aload_n hx hb dX3_fill_123 rfl (lv_at hl 2 rfl) ?_
        refine iz_get (D := (dC, dI)) (ci := 3) (v := .ref tongue_3) (C := RX3) (T := TX3) (N := 11) hx hb hts hinX3 hown hK co_33 rfl 2 (by decide) hL49 (fun _ h9 => h9) rfl dX3_fill_124 ?_
        refine iz_get (D := (dC, dI)) (ci := 9) (v := .ref forms_34) (C := RX9) (T := TX9) (N := 5) hx hb hts hinX9 hown hK co_34 rfl 0 (by decide) hL81 (fun _ h9 => h9) rfl dX3_fill_127 ?_
        refine lv_iload_n hx hb dX3_fill_130 rfl (lv_at hl 0 rfl) ?_
        refine jz_aald hx hb hK 4 c_f_36 rfl rfl (by omega) (by decide) dX3_fill_131 ?_
        rw [eb_37]
        refine W.eq (g2 := F0 m 132 ls [.ref b_37, .int (kz pl1), .ref a0]) rfl ?_
        refine va_callv (va_runV (As := [.int (kz pl1), .ref b_37]) (rest := []) ⟨hx, hb, hml, hown, hts⟩ (c_gatherForm l dC dI ca A X hU H a0 pl1 b_37 g_a0 g_b_37 (by omega)) (cwV 2 hts gX3_fill_X3_gatherForm rfl rfl rfl (by decide +kernel) ⟨Nat.le_of_ble_eq_true rfl, Nat.le_of_ble_eq_true rfl⟩) ⟨fun a U g mk q => by obtain ⟨q0, qH, ⟨qK, qN⟩, qI⟩ := q; exact ⟨q0, qH, ⟨va_K.moved (u := U) (U := U.calling g mk a) (Vm.Alike.refl U.vm) qK, jN_same (U := U.calling g mk a) rfl qN⟩, qI⟩, va_recv hK (at_P co_33) (ci := 3) (q0 := 0) rfl rfl, fun U hU hW => ⟨rfl, hU, jK_warm hW ⟨hK, hN⟩, by rw [hU]; exact hI⟩⟩ rfl rfl hl.1 rfl (lv_room (Nat.le_of_ble_eq_true rfl)) dX3_fill_132 ⟨Nat.le_of_ble_eq_true rfl, Nat.le_of_ble_eq_true rfl⟩) hS (fun q _ h => h) (fun q h => h) (fun u t9 H locs ht hvm hw_41 hB hz1 hk1 hS => ?_)
        obtain ⟨-, hI, hf9⟩ := hB
        rw [ht] at hI hf9
        clear ht hvm hz1
        have co_33 := fm_at hf9 g_a0 (show (3 : Nat) ∉ ([233, 234, 235, 236] : List Nat) by decide) co_33
        have co_34 := fm_at hf9 g_tongue_33 (show (9 : Nat) ∉ ([233, 234, 235, 236] : List Nat) by decide) co_34
        have c_f_36 := fm_at hf9 g_forms_34 (show (212 : Nat) ∉ ([233, 234, 235, 236] : List Nat) by decide) c_f_36
        have hF := fm_tr hF hf9 (by decide)
        clear hk1 hf9
        refine lv_iinc (v := kz (k + 1)) (lv' := [(3, .int (kz (k + 1))), (2, .int (kz pl1)), (0, .ref a0), (1, .int (kz ct))]) hx hb dX3_fill_135 hl (k := 0) rfl (kz_add k 1) (by decide) rfl (fun ls hl => ?_)
        refine lv_goto (tgt := 96) hx hb dX3_fill_138 (by decide) ?_
        exact ihn_32 (n_32 - 1) (by omega) () (k + 1) _ _ _ ⟨by omega, by omega, by omega, lv_sub hl [0, 1, 2, 3] rfl, hI, hS, hF⟩
  · refine lv_aload_n hx hb dX3_fill_8 rfl (lv_at hl 1 rfl) ?_
    obtain ⟨fs9, co_43, jo9⟩ := jv_o3 hI g_a0
    obtain ⟨cheapest_43, size_43, tongue_43, line_43, ways_43, plainWays_43, plainCheapest_43, ruledWays_43, ruledCheapest_43, inForce_43, barred_43, rfl, g_cheapest_43, ⟨size_43a, size_43b⟩, g_tongue_43, g_line_43, g_ways_43, g_plainWays_43, g_plainCheapest_43, g_ruledWays_43, g_ruledCheapest_43, ⟨inForce_43a, inForce_43b⟩, g_barred_43⟩ := jo9
    refine iz_get (D := (dC, dI)) (ci := 3) (v := .ref barred_43) (C := RX3) (T := TX3) (N := 11) hx hb hts hinX3 hown hK co_43 rfl 10 (by decide) hL45 (fun _ h9 => h9) rfl dX3_fill_9 ?_
    refine lv_iload_n hx hb dX3_fill_12 rfl (lv_at hl 0 rfl) ?_
    refine lv_iload_n hx hb dX3_fill_13 rfl (lv_at hl 2 rfl) ?_
    refine iz_eqz (tgt := 33) hx hb dX3_fill_14 (by decide) (by unfold rg2; omega) (fun br_44 => ?_) (fun br_44 => ?_)
    · refine lv_iconst (v := kz 0) hx hb dX3_fill_33 rfl ?_
      obtain ⟨f_45, c_f_45⟩ := iv_o22 (jv_iv hI) g_barred_43
      refine iz_zast hx hb hK 2 c_f_45 hS (jv_A hI g_barred_43 (show (22 : Nat) ≠ 0 by decide)) rfl (by omega) (by decide) dX3_fill_34 (fun H locs c9 oq hS => ?_)
      have hI := jv_s22 hI g_barred_43 c9 oq
      have hF := fm_put hF g_barred_43 (show (225 : Nat) ∈ [220, 225, 232, 233, 234, 235, 236] by decide) oq
      have co_43 := co_43.kept (oq _ (kn_ne g_a0 g_barred_43 (show (3 : Nat) ≠ 225 by decide)))
      clear oq c9
      refine lv_iinc (v := kz (k + 1)) (lv' := [(2, .int (kz (k + 1))), (0, .ref a0), (1, .int (kz ct))]) hx hb dX3_fill_35 hl (k := 0) rfl (kz_add k 1) (by decide) rfl (fun ls hl => ?_)
      refine lv_goto (tgt := 2) hx hb dX3_fill_38 (by decide) ?_
      exact ihn_1 (n_1 - 1) (by omega) () (k + 1) _ _ _ ⟨by omega, by omega, by omega, lv_sub hl [0, 1, 2] rfl, hI, hS, hF⟩
    · refine lv_aload_n hx hb dX3_fill_17 rfl (lv_at hl 1 rfl) ?_
      refine iz_get (D := (dC, dI)) (ci := 3) (v := .ref tongue_43) (C := RX3) (T := TX3) (N := 11) hx hb hts hinX3 hown hK co_43 rfl 2 (by decide) hL49 (fun _ h9 => h9) rfl dX3_fill_18 ?_
      obtain ⟨fs9, co_46, jo9⟩ := jv_o9 hI g_tongue_43
      obtain ⟨forms_46, rules_46, formCount_46, ruleCount_46, forbidden_46, rfl, g_forms_46, g_rules_46, ⟨formCount_46a, formCount_46b⟩, ⟨ruleCount_46a, ruleCount_46b⟩, g_forbidden_46, x_46_0, x_46_1, x_46_2⟩ := jo9
      refine iz_get (D := (dC, dI)) (ci := 9) (v := .ref forbidden_46) (C := RX9) (T := TX9) (N := 5) hx hb hts hinX9 hown hK co_46 rfl 4 (by decide) hL65 (fun _ h9 => h9) rfl dX3_fill_21 ?_
      refine lv_iload_n hx hb dX3_fill_24 rfl (lv_at hl 0 rfl) ?_
      obtain ⟨f_47, c_f_47⟩ := iv_o22 (jv_iv hI) g_forbidden_46
      refine iz_zald hx hb hK 2 c_f_47 rfl (by omega) (by decide) dX3_fill_25 ?_
      have v_48a := kz_lo (f_47 (Int.toNat k))
      have v_48b := kz_hi (f_47 (Int.toNat k))
      change _ ≤ ge1 f_47 k at v_48a
      change ge1 f_47 k ≤ _ at v_48b
      obtain ⟨v_48, ev_48⟩ : ∃ z9 : Int, ge1 f_47 k = z9 := ⟨_, rfl⟩
      rw [ev_48] at v_48a v_48b ⊢
      refine iz_eqz (tgt := 33) hx hb dX3_fill_26 (by decide) (by unfold rg2; omega) (fun br_49 => ?_) (fun br_49 => ?_)
      · refine lv_iconst (v := kz 0) hx hb dX3_fill_33 rfl ?_
        obtain ⟨f_50, c_f_50⟩ := iv_o22 (jv_iv hI) g_barred_43
        refine iz_zast hx hb hK 2 c_f_50 hS (jv_A hI g_barred_43 (show (22 : Nat) ≠ 0 by decide)) rfl (by omega) (by decide) dX3_fill_34 (fun H locs c9 oq hS => ?_)
        have hI := jv_s22 hI g_barred_43 c9 oq
        have hF := fm_put hF g_barred_43 (show (225 : Nat) ∈ [220, 225, 232, 233, 234, 235, 236] by decide) oq
        have c_f_47 := c_f_47.kept (oq _ (kn_ne g_forbidden_46 g_barred_43 (show (214 : Nat) ≠ 225 by decide)))
        have co_43 := co_43.kept (oq _ (kn_ne g_a0 g_barred_43 (show (3 : Nat) ≠ 225 by decide)))
        have co_46 := co_46.kept (oq _ (kn_ne g_tongue_43 g_barred_43 (show (9 : Nat) ≠ 225 by decide)))
        clear oq c9
        refine lv_iinc (v := kz (k + 1)) (lv' := [(2, .int (kz (k + 1))), (0, .ref a0), (1, .int (kz ct))]) hx hb dX3_fill_35 hl (k := 0) rfl (kz_add k 1) (by decide) rfl (fun ls hl => ?_)
        refine lv_goto (tgt := 2) hx hb dX3_fill_38 (by decide) ?_
        exact ihn_1 (n_1 - 1) (by omega) () (k + 1) _ _ _ ⟨by omega, by omega, by omega, lv_sub hl [0, 1, 2] rfl, hI, hS, hF⟩
      · refine lv_iconst (v := kz 1) hx hb dX3_fill_29 rfl ?_
        refine lv_goto (tgt := 34) hx hb dX3_fill_30 (by decide) ?_
        obtain ⟨f_51, c_f_51⟩ := iv_o22 (jv_iv hI) g_barred_43
        refine iz_zast hx hb hK 2 c_f_51 hS (jv_A hI g_barred_43 (show (22 : Nat) ≠ 0 by decide)) rfl (by omega) (by decide) dX3_fill_34 (fun H locs c9 oq hS => ?_)
        have hI := jv_s22 hI g_barred_43 c9 oq
        have hF := fm_put hF g_barred_43 (show (225 : Nat) ∈ [220, 225, 232, 233, 234, 235, 236] by decide) oq
        have c_f_47 := c_f_47.kept (oq _ (kn_ne g_forbidden_46 g_barred_43 (show (214 : Nat) ≠ 225 by decide)))
        have co_43 := co_43.kept (oq _ (kn_ne g_a0 g_barred_43 (show (3 : Nat) ≠ 225 by decide)))
        have co_46 := co_46.kept (oq _ (kn_ne g_tongue_43 g_barred_43 (show (9 : Nat) ≠ 225 by decide)))
        clear oq c9
        refine lv_iinc (v := kz (k + 1)) (lv' := [(2, .int (kz (k + 1))), (0, .ref a0), (1, .int (kz ct))]) hx hb dX3_fill_35 hl (k := 0) rfl (kz_add k 1) (by decide) rfl (fun ls hl => ?_)
        refine lv_goto (tgt := 2) hx hb dX3_fill_38 (by decide) ?_
        exact ihn_1 (n_1 - 1) (by omega) () (k + 1) _ _ _ ⟨by omega, by omega, by omega, lv_sub hl [0, 1, 2] rfl, hI, hS, hF⟩
set_option maxHeartbeats 4000000 in
set_option maxRecDepth 100000 in
/-- X1_remember -/
theorem c_remember (l : Launch) (dC : Nat → ClassId) (dI : Nat → Nat → Nat) (ca : Nat → ClassId) (A : Nat → Prop) (X : jG) (hU : jU X) (Hp : Heap) (a0 : Nat) (tg : Nat) (uses_a0 : Nat) (size_a0 : Int) (cb_a0 : Nat) (ub_a0 : Nat) (fb_a0 : Nat) (oldest_a0 : Int) (g_a0 : X.1 a0 = (1, 30, 0, 0, 0)) (g_tg : X.1 tg = (9, 30, 0, 0, 0)) (g_uses_a0 : X.1 uses_a0 = (215, 20, 20, -2147483648, 2147483647)) (size_a0i : 0 ≤ size_a0 ∧ size_a0 ≤ 30) (g_cb_a0 : X.1 cb_a0 = (216, 27, 30, 230, 40)) (g_ub_a0 : X.1 ub_a0 = (217, 27, 30, 231, 20)) (g_fb_a0 : X.1 fb_a0 = (218, 20, 30, 0, 40)) (oldest_a0i : 0 ≤ oldest_a0 ∧ oldest_a0 ≤ 29) : Met l yX1_remember wsX1_remember ({ frames := 1, cells := 0, slots := 0, locals := 18 }) (va_Pc [.ref a0, .ref tg] (fun U => U.heap = Hp ∧ jK (dC, dI) ca U ∧ jv (dC, dI) ca A X U.heap ∧ va_at (dC, dI) vwCl (a0, .inr (1, [.ref uses_a0, .int (kz size_a0), .ref cb_a0, .ref ub_a0, .ref fb_a0, .int (kz oldest_a0)])) U.heap)) (va_Qv (fun (u : Unit) => True) (fun u U => jK (dC, dI) ca U ∧ jv (dC, dI) ca A X U.heap ∧ kfm X [1, 218, 230, 231] Hp U.heap) A) 0 0 A := by
  refine Met.ofW (cc := cX1_remember) (maxL := 4) (ret := none) (by decide) rfl ?_
  intro p e s m args below meth c s₁ B hml hv
  obtain ⟨rfl, hHp, ⟨hK, hN⟩, hI, co_a0⟩ := hv
  have hx := B.exec
  have hb := B.bytes
  have hr := B.returns
  have hts := atoms_spec (ws := wsX1_remember) B.pre
  have hown : s.vm.findClass RX1 = some m.cls := findClass_of_methodNamed B.named
  have hL15 := hts (.fieldLink RX1 15 "JoinBench$Choices" "size" "I") (by decide +kernel)
  have hL30 := hts (.fieldLink RX1 30 "JoinBench$Choices" "oldest" "I") (by decide +kernel)
  have hL33 := hts (.fieldLink RX1 33 "JoinBench$Tongue" "formCount" "I") (by decide +kernel)
  have hL21 := hts (.fieldLink RX1 21 "JoinBench$Choices" "costsBefore" "[[I") (by decide +kernel)
  have hL38 := hts (.fieldLink RX1 38 "JoinBench$Tongue" "forms" "[LJoinBench$Form;") (by decide +kernel)
  have hL42 := hts (.fieldLink RX1 42 "JoinBench$Form" "cost" "I") (by decide +kernel)
  have hL27 := hts (.fieldLink RX1 27 "JoinBench$Choices" "formsBefore" "[I") (by decide +kernel)
  have hL9 := hts (.fieldLink RX1 9 "JoinBench$Choices" "uses" "[I") (by decide +kernel)
  have hL24 := hts (.fieldLink RX1 24 "JoinBench$Choices" "usesBefore" "[[I") (by decide +kernel)
  have hinX1 : ∀ w ∈ u_ws RX1 TX1 6, w ∈ wsX1_remember := by decide +kernel
  have hinX2 : ∀ w ∈ u_ws RX2 TX2 8, w ∈ wsX1_remember := by decide +kernel
  have hinX9 : ∀ w ∈ u_ws RX9 TX9 5, w ∈ wsX1_remember := by decide +kernel
  obtain ⟨H, hH⟩ : ∃ H : Heap, H = s.heap := ⟨_, rfl⟩
  have hS : va_S A s.heap H [] := by rw [hH]; exact va_S.rf
  have hF : kfm X [1, 218, 230, 231] Hp H := by rw [hH, hHp]; exact fm_rf _ _ _
  rw [← hH] at hI co_a0 ⊢
  clear hH
  have hl := lv_entry ([.ref a0, .ref tg]) (n := 4) (Nat.le_of_ble_eq_true rfl)
  rw [lg_entry_eq]
  generalize (lg_sl ([.ref a0, .ref tg]) ++ List.replicate (4 - (lg_sl ([.ref a0, .ref tg])).length) Slot.unset).toArray = ls at hl ⊢
  have hl : lv_has ls 4 [(0, .ref a0), (1, .ref tg)] := hl
  refine lv_aload_n hx hb dX1_remember_0 rfl (lv_at hl 0 rfl) ?_
  refine iz_get (D := (dC, dI)) (ci := 1) (v := .int (kz size_a0)) (C := RX1) (T := TX1) (N := 6) hx hb hts hinX1 hown hK co_a0 rfl 1 (by decide) hL15 (fun _ h9 => h9) rfl dX1_remember_1 ?_
  refine lv_bipush (v := kz 30) hx hb dX1_remember_4 (by decide) ?_
  refine iz_ne (tgt := 32) hx hb dX1_remember_6 (by decide) (by unfold rg2; omega) (fun br_1 => ?_) (fun br_1 => ?_)
  · refine lv_aload_n hx hb dX1_remember_32 rfl (lv_at hl 0 rfl) ?_
    refine iz_get (D := (dC, dI)) (ci := 1) (v := .int (kz oldest_a0)) (C := RX1) (T := TX1) (N := 6) hx hb hts hinX1 hown hK co_a0 rfl 5 (by decide) hL30 (fun _ h9 => h9) rfl dX1_remember_33 ?_
    refine lv_aload_n hx hb dX1_remember_36 rfl (lv_at hl 0 rfl) ?_
    refine iz_get (D := (dC, dI)) (ci := 1) (v := .int (kz size_a0)) (C := RX1) (T := TX1) (N := 6) hx hb hts hinX1 hown hK co_a0 rfl 1 (by decide) hL15 (fun _ h9 => h9) rfl dX1_remember_37 ?_
    refine iz_iadd hx hb dX1_remember_40 ?_
    refine lv_bipush (v := kz 30) hx hb dX1_remember_41 (by decide) ?_
    refine lv_irem hx hb dX1_remember_43 (by decide) ?_
    obtain ⟨z_2, z_2e, z_2a, z_2b⟩ := kz_rem30 (z := (oldest_a0 + size_a0)) (by omega)
    rw [z_2e]
    refine lv_istore_n (lv' := [(2, .int (kz z_2)), (0, .ref a0), (1, .ref tg)]) hx hb dX1_remember_44 rfl hl (by decide) rfl (fun ls hl => ?_)
    refine lv_iconst (v := kz 0) hx hb dX1_remember_45 rfl ?_
    refine lv_istore_n (lv' := [(3, .int (kz 0)), (2, .int (kz z_2)), (0, .ref a0), (1, .ref tg)]) hx hb dX1_remember_46 rfl hl (by decide) rfl (fun ls hl => ?_)
    refine iz_loopA1 (α := Unit) (P := fun N9 _u9 k H locs ls => (0 ≤ k) ∧ (k ≤ 40) ∧ 40 - k ≤ (N9 : Int) ∧ lv_has ls 4 [(3, .int (kz k)), (2, .int (kz z_2)), (0, .ref a0), (1, .ref tg)] ∧ jv (dC, dI) ca A X H ∧ va_S A s.heap H locs ∧ kfm X [1, 218, 230, 231] Hp H ∧ va_at (dC, dI) vwCl (a0, .inr (1, [.ref uses_a0, .int (kz size_a0), .ref cb_a0, .ref ub_a0, .ref fb_a0, .int (kz oldest_a0)])) H) 100000 () (x0 := 0) ?_ ⟨by omega, by omega, by omega, lv_sub hl [0, 1, 2, 3] rfl, hI, hS, hF, co_a0⟩
    intro n_3 _u9 k H locs ls ⟨n_3f0, n_3f1, n_3f2, hl, hI, hS, hF, co_a0⟩ ihn_3
    refine lv_iload_n hx hb dX1_remember_47 rfl (lv_at hl 0 rfl) ?_
    refine lv_aload_n hx hb dX1_remember_48 rfl (lv_at hl 3 rfl) ?_
    obtain ⟨fs9, co_4, jo9⟩ := jv_o9 hI g_tg
    obtain ⟨forms_4, rules_4, formCount_4, ruleCount_4, forbidden_4, rfl, g_forms_4, g_rules_4, ⟨formCount_4a, formCount_4b⟩, ⟨ruleCount_4a, ruleCount_4b⟩, g_forbidden_4, x_4_0, x_4_1, x_4_2⟩ := jo9
    refine iz_get (D := (dC, dI)) (ci := 9) (v := .int (kz formCount_4)) (C := RX9) (T := TX9) (N := 5) hx hb hts hinX9 hown hK co_4 rfl 2 (by decide) hL33 (fun _ h9 => h9) rfl dX1_remember_49 ?_
    refine iz_ge (tgt := 78) hx hb dX1_remember_52 (by decide) (by unfold rg2; omega) (fun br_5 => ?_) (fun br_5 => ?_)
    · refine lv_aload_n hx hb dX1_remember_78 rfl (lv_at hl 2 rfl) ?_
      refine iz_get (D := (dC, dI)) (ci := 1) (v := .ref fb_a0) (C := RX1) (T := TX1) (N := 6) hx hb hts hinX1 hown hK co_a0 rfl 4 (by decide) hL27 (fun _ h9 => h9) rfl dX1_remember_79 ?_
      refine lv_iload_n hx hb dX1_remember_82 rfl (lv_at hl 1 rfl) ?_
      refine lv_aload_n hx hb dX1_remember_83 rfl (lv_at hl 3 rfl) ?_
      refine iz_get (D := (dC, dI)) (ci := 9) (v := .int (kz formCount_4)) (C := RX9) (T := TX9) (N := 5) hx hb hts hinX9 hown hK co_4 rfl 2 (by decide) hL33 (fun _ h9 => h9) rfl dX1_remember_84 ?_
      obtain ⟨f_6, c_f_6, k_f_6⟩ := iv_o20 (jv_iv hI) g_fb_a0
      refine iz_iast hx hb hK 0 c_f_6 hS (jv_A hI g_fb_a0 (show (20 : Nat) ≠ 0 by decide)) rfl (by omega) (by decide) dX1_remember_87 (fun H locs c9 oq hS => ?_)
      have hI := jv_s20 hI g_fb_a0 k_f_6 c9 oq (by omega) (by omega) (by decide)
      have hF := fm_put hF g_fb_a0 (show (218 : Nat) ∈ [1, 218, 230, 231] by decide) oq
      have co_a0 := co_a0.kept (oq _ (kn_ne g_a0 g_fb_a0 (show (1 : Nat) ≠ 218 by decide)))
      have co_4 := co_4.kept (oq _ (kn_ne g_tg g_fb_a0 (show (9 : Nat) ≠ 218 by decide)))
      clear oq c9
      refine lv_aload_n hx hb dX1_remember_88 rfl (lv_at hl 2 rfl) ?_
      refine iz_get (D := (dC, dI)) (ci := 1) (v := .ref uses_a0) (C := RX1) (T := TX1) (N := 6) hx hb hts hinX1 hown hK co_a0 rfl 0 (by decide) hL9 (fun _ h9 => h9) rfl dX1_remember_89 ?_
      refine lv_iconst (v := kz 0) hx hb dX1_remember_92 rfl ?_
      refine lv_aload_n hx hb dX1_remember_93 rfl (lv_at hl 2 rfl) ?_
      refine iz_get (D := (dC, dI)) (ci := 1) (v := .ref ub_a0) (C := RX1) (T := TX1) (N := 6) hx hb hts hinX1 hown hK co_a0 rfl 3 (by decide) hL24 (fun _ h9 => h9) rfl dX1_remember_94 ?_
      refine lv_iload_n hx hb dX1_remember_97 rfl (lv_at hl 1 rfl) ?_
      obtain ⟨f_7, c_f_7, k_f_7⟩ := jv_q27 hI g_ub_a0
      refine jz_aald hx hb hK 7 c_f_7 rfl rfl (by omega) (by decide) dX1_remember_98 ?_
      obtain ⟨b_8, eb_8, g_b_8⟩ := k_f_7 (Int.toNat z_2) (by omega)
      rw [eb_8]
      have g_b_8 : X.1 b_8 = (231, 20, 20, -2147483648, 2147483647) := g_b_8
      refine W.eq (g2 := F0 m 99 ls [.ref b_8, .int (kz 0), .ref uses_a0]) rfl ?_
      refine lv_iconst (v := kz 0) hx hb dX1_remember_99 rfl ?_
      refine lv_bipush (v := kz 20) hx hb dX1_remember_100 (by decide) ?_
      obtain ⟨f_9, c_f_9, k_f_9⟩ := iv_o20 (jv_iv hI) g_uses_a0
      obtain ⟨f_10, c_f_10, k_f_10⟩ := iv_o20 (jv_iv hI) g_b_8
      refine iz_copyi (ty := .int) hx hb (by rw [hml]; exact hl.1.symm) hown (hts (.methodLink RX1 47 arraycopyName) (by decide +kernel)) (hts (.native arraycopyName) (by decide +kernel)) (hts (.static arraycopyName) (by decide +kernel)) (hts (.initialized "java/lang/System") (by decide +kernel)) hK 0 c_f_9 c_f_10 hS (jv_A hI g_b_8 (show (20 : Nat) ≠ 0 by decide)) rfl rfl (n := 20) (by omega) (fun _ _ => rfl) (Nat.le_of_ble_eq_true rfl) (Nat.le_of_ble_eq_true rfl) dX1_remember_102 (fun H locs c9 oq hS => ?_)
      have hI := jv_set hI c9 oq (by rw [g_b_8]; exact jv_e2 (by decide) (Or.inl (by decide)) (iv_e20 (ok20_full _)))
      have hF := fm_put hF g_b_8 (show (231 : Nat) ∈ [1, 218, 230, 231] by decide) oq
      have c_f_7 := c_f_7.kept (oq _ (kn_ne g_ub_a0 g_b_8 (show (217 : Nat) ≠ 231 by decide)))
      have c_f_9 := c_f_9.kept (oq _ (kn_ne g_uses_a0 g_b_8 (show (215 : Nat) ≠ 231 by decide)))
      have co_a0 := co_a0.kept (oq _ (kn_ne g_a0 g_b_8 (show (1 : Nat) ≠ 231 by decide)))
      have co_4 := co_4.kept (oq _ (kn_ne g_tg g_b_8 (show (9 : Nat) ≠ 231 by decide)))
      clear oq c9
      refine lv_aload_n hx hb dX1_remember_105 rfl (lv_at hl 2 rfl) ?_
      refine lv_dup hx hb dX1_remember_106 rfl ?_
      refine iz_get (D := (dC, dI)) (ci := 1) (v := .int (kz size_a0)) (C := RX1) (T := TX1) (N := 6) hx hb hts hinX1 hown hK co_a0 rfl 1 (by decide) hL15 (fun _ h9 => h9) rfl dX1_remember_107 ?_
      refine lv_iconst (v := kz 1) hx hb dX1_remember_110 rfl ?_
      refine iz_iadd hx hb dX1_remember_111 ?_
      refine iz_put (D := (dC, dI)) (ci := 1) (v := .int (kz (size_a0 + 1))) (ty := .int) (C := RX1) (T := TX1) (N := 6) hx hb hts hinX1 tyX1 tyX1_ok nmX1 hown hK co_a0 hS (jv_A hI g_a0 (show (30 : Nat) ≠ 0 by decide)) rfl 1 (by decide) hL15 (fun _ h9 => h9) rfl (by decide +kernel) rfl rfl (Nat.le_of_ble_eq_true rfl) dX1_remember_112 (fun H locs c9 oq hS => ?_)
      have hI := jv_set hI c9 oq (by rw [g_a0]; exact jv_c1 ⟨uses_a0, (size_a0 + 1), cb_a0, ub_a0, fb_a0, oldest_a0, rfl, g_uses_a0, ⟨by omega, by omega⟩, g_cb_a0, g_ub_a0, g_fb_a0, ⟨by omega, by omega⟩⟩)
      have hF := fm_put hF g_a0 (show (1 : Nat) ∈ [1, 218, 230, 231] by decide) oq
      have co_4 := co_4.kept (oq _ (kn_ne g_tg g_a0 (show (9 : Nat) ≠ 1 by decide)))
      have c_f_7 := c_f_7.kept (oq _ (kn_ne g_ub_a0 g_a0 (show (217 : Nat) ≠ 1 by decide)))
      have c_f_9 := c_f_9.kept (oq _ (kn_ne g_uses_a0 g_a0 (show (215 : Nat) ≠ 1 by decide)))
      have co_a0 := c9
      clear oq c9
      exact W.vret hx hb hr (fun t9 ht hW => ⟨⟨(), rfl, trivial, jK_warm hW ⟨hK, hN⟩, by rw [ht]; exact ⟨hI, hF⟩⟩, hS.F ht⟩) hS.2.2 dX1_remember_115
    · refine lv_aload_n hx hb dX1_remember_55 rfl (lv_at hl 2 rfl) ?_
      refine iz_get (D := (dC, dI)) (ci := 1) (v := .ref cb_a0) (C := RX1) (T := TX1) (N := 6) hx hb hts hinX1 hown hK co_a0 rfl 2 (by decide) hL21 (fun _ h9 => h9) rfl dX1_remember_56 ?_
      refine lv_iload_n hx hb dX1_remember_59 rfl (lv_at hl 1 rfl) ?_
      obtain ⟨f_11, c_f_11, k_f_11⟩ := jv_q27 hI g_cb_a0
      refine jz_aald hx hb hK 7 c_f_11 rfl rfl (by omega) (by decide) dX1_remember_60 ?_
      obtain ⟨b_12, eb_12, g_b_12⟩ := k_f_11 (Int.toNat z_2) (by omega)
      rw [eb_12]
      have g_b_12 : X.1 b_12 = (230, 20, 40, -2147483648, 2147483647) := g_b_12
      refine W.eq (g2 := F0 m 61 ls [.ref b_12]) rfl ?_
      refine lv_iload_n hx hb dX1_remember_61 rfl (lv_at hl 0 rfl) ?_
      refine lv_aload_n hx hb dX1_remember_62 rfl (lv_at hl 3 rfl) ?_
      refine iz_get (D := (dC, dI)) (ci := 9) (v := .ref forms_4) (C := RX9) (T := TX9) (N := 5) hx hb hts hinX9 hown hK co_4 rfl 0 (by decide) hL38 (fun _ h9 => h9) rfl dX1_remember_63 ?_
      refine lv_iload_n hx hb dX1_remember_66 rfl (lv_at hl 0 rfl) ?_
      obtain ⟨f_13, c_f_13, k_f_13⟩ := jv_q24 hI g_forms_4
      refine jz_aald hx hb hK 4 c_f_13 rfl rfl (by omega) (by decide) dX1_remember_67 ?_
      obtain ⟨b_14, eb_14⟩ : ∃ b9 : Nat, f_13 (Int.toNat k) = some b9 := Option.ne_none_iff_exists'.mp ((k_f_13 (Int.toNat k) (by omega)).2 (by omega))
      have g_b_14 := (k_f_13 (Int.toNat k) (by omega)).1 b_14 eb_14
      rw [eb_14]
      refine W.eq (g2 := F0 m 68 ls [.ref b_14, .int (kz k), .ref b_12]) rfl ?_
      obtain ⟨fs9, co_15, jo9⟩ := jv_o2 hI g_b_14
      obtain ⟨ln_15, letters_15, kind_15, stem_15, kept_15, cost_15, number_15, ends_15, begins_15, rfl, g_letters_15, ⟨kind_15a, kind_15b⟩, ⟨stem_15a, stem_15b⟩, ⟨kept_15a, kept_15b⟩, ⟨cost_15a, cost_15b⟩, ⟨number_15a, number_15b⟩, ⟨ends_15a, ends_15b⟩, ⟨begins_15a, begins_15b⟩, x_15_0, x_15_1, x_15_2, x_15_3⟩ := jo9
      refine iz_get (D := (dC, dI)) (ci := 2) (v := .int (kz cost_15)) (C := RX2) (T := TX2) (N := 8) hx hb hts hinX2 hown hK co_15 rfl 4 (by decide) hL42 (fun _ h9 => h9) rfl dX1_remember_68 ?_
      obtain ⟨f_16, c_f_16, k_f_16⟩ := iv_o20 (jv_iv hI) g_b_12
      refine iz_any (fun z_17 z_17a z_17b z_17e => ?_)
      refine iz_iast hx hb hK 0 c_f_16 hS (jv_A hI g_b_12 (show (20 : Nat) ≠ 0 by decide)) rfl (by omega) (by decide) dX1_remember_71 (fun H locs c9 oq hS => ?_)
      have hI := jv_s20 hI g_b_12 k_f_16 c9 oq (by omega) (by omega) (by decide)
      have hF := fm_put hF g_b_12 (show (230 : Nat) ∈ [1, 218, 230, 231] by decide) oq
      have c_f_11 := c_f_11.kept (oq _ (kn_ne g_cb_a0 g_b_12 (show (216 : Nat) ≠ 230 by decide)))
      have c_f_13 := c_f_13.kept (oq _ (kn_ne g_forms_4 g_b_12 (show (212 : Nat) ≠ 230 by decide)))
      have co_a0 := co_a0.kept (oq _ (kn_ne g_a0 g_b_12 (show (1 : Nat) ≠ 230 by decide)))
      have co_4 := co_4.kept (oq _ (kn_ne g_tg g_b_12 (show (9 : Nat) ≠ 230 by decide)))
      have co_15 := co_15.kept (oq _ (kn_ne g_b_14 g_b_12 (show (2 : Nat) ≠ 230 by decide)))
      clear oq c9
      refine lv_iinc (v := kz (k + 1)) (lv' := [(3, .int (kz (k + 1))), (2, .int (kz z_2)), (0, .ref a0), (1, .ref tg)]) hx hb dX1_remember_72 hl (k := 0) rfl (kz_add k 1) (by decide) rfl (fun ls hl => ?_)
      refine lv_goto (tgt := 47) hx hb dX1_remember_75 (by decide) ?_
      exact ihn_3 (n_3 - 1) (by omega) () (k + 1) _ _ _ ⟨by omega, by omega, by omega, lv_sub hl [0, 1, 2, 3] rfl, hI, hS, hF, co_a0⟩
  · refine lv_aload_n hx hb dX1_remember_9 rfl (lv_at hl 0 rfl) ?_
    refine lv_aload_n hx hb dX1_remember_10 rfl (lv_at hl 0 rfl) ?_
    refine iz_get (D := (dC, dI)) (ci := 1) (v := .int (kz oldest_a0)) (C := RX1) (T := TX1) (N := 6) hx hb hts hinX1 hown hK co_a0 rfl 5 (by decide) hL30 (fun _ h9 => h9) rfl dX1_remember_11 ?_
    refine lv_iconst (v := kz 1) hx hb dX1_remember_14 rfl ?_
    refine iz_iadd hx hb dX1_remember_15 ?_
    refine lv_bipush (v := kz 30) hx hb dX1_remember_16 (by decide) ?_
    refine lv_irem hx hb dX1_remember_18 (by decide) ?_
    obtain ⟨z_18, z_18e, z_18a, z_18b⟩ := kz_rem30 (z := (oldest_a0 + 1)) (by omega)
    rw [z_18e]
    refine iz_put (D := (dC, dI)) (ci := 1) (v := .int (kz z_18)) (ty := .int) (C := RX1) (T := TX1) (N := 6) hx hb hts hinX1 tyX1 tyX1_ok nmX1 hown hK co_a0 hS (jv_A hI g_a0 (show (30 : Nat) ≠ 0 by decide)) rfl 5 (by decide) hL30 (fun _ h9 => h9) rfl (by decide +kernel) rfl rfl (Nat.le_of_ble_eq_true rfl) dX1_remember_19 (fun H locs c9 oq hS => ?_)
    have hI := jv_set hI c9 oq (by rw [g_a0]; exact jv_c1 ⟨uses_a0, size_a0, cb_a0, ub_a0, fb_a0, z_18, rfl, g_uses_a0, ⟨by omega, by omega⟩, g_cb_a0, g_ub_a0, g_fb_a0, ⟨by omega, by omega⟩⟩)
    have hF := fm_put hF g_a0 (show (1 : Nat) ∈ [1, 218, 230, 231] by decide) oq
    have co_a0 := c9
    clear oq c9
    refine lv_aload_n hx hb dX1_remember_22 rfl (lv_at hl 0 rfl) ?_
    refine lv_dup hx hb dX1_remember_23 rfl ?_
    refine iz_get (D := (dC, dI)) (ci := 1) (v := .int (kz size_a0)) (C := RX1) (T := TX1) (N := 6) hx hb hts hinX1 hown hK co_a0 rfl 1 (by decide) hL15 (fun _ h9 => h9) rfl dX1_remember_24 ?_
    refine lv_iconst (v := kz 1) hx hb dX1_remember_27 rfl ?_
    refine iz_isub hx hb dX1_remember_28 ?_
    refine iz_put (D := (dC, dI)) (ci := 1) (v := .int (kz (size_a0 - 1))) (ty := .int) (C := RX1) (T := TX1) (N := 6) hx hb hts hinX1 tyX1 tyX1_ok nmX1 hown hK co_a0 hS (jv_A hI g_a0 (show (30 : Nat) ≠ 0 by decide)) rfl 1 (by decide) hL15 (fun _ h9 => h9) rfl (by decide +kernel) rfl rfl (Nat.le_of_ble_eq_true rfl) dX1_remember_29 (fun H locs c9 oq hS => ?_)
    have hI := jv_set hI c9 oq (by rw [g_a0]; exact jv_c1 ⟨uses_a0, (size_a0 - 1), cb_a0, ub_a0, fb_a0, z_18, rfl, g_uses_a0, ⟨by omega, by omega⟩, g_cb_a0, g_ub_a0, g_fb_a0, ⟨by omega, by omega⟩⟩)
    have hF := fm_put hF g_a0 (show (1 : Nat) ∈ [1, 218, 230, 231] by decide) oq
    have co_a0 := c9
    clear oq c9
    refine lv_aload_n hx hb dX1_remember_32 rfl (lv_at hl 0 rfl) ?_
    refine iz_get (D := (dC, dI)) (ci := 1) (v := .int (kz z_18)) (C := RX1) (T := TX1) (N := 6) hx hb hts hinX1 hown hK co_a0 rfl 5 (by decide) hL30 (fun _ h9 => h9) rfl dX1_remember_33 ?_
    refine lv_aload_n hx hb dX1_remember_36 rfl (lv_at hl 0 rfl) ?_
    refine iz_get (D := (dC, dI)) (ci := 1) (v := .int (kz (size_a0 - 1))) (C := RX1) (T := TX1) (N := 6) hx hb hts hinX1 hown hK co_a0 rfl 1 (by decide) hL15 (fun _ h9 => h9) rfl dX1_remember_37 ?_
    refine iz_iadd hx hb dX1_remember_40 ?_
    refine lv_bipush (v := kz 30) hx hb dX1_remember_41 (by decide) ?_
    refine lv_irem hx hb dX1_remember_43 (by decide) ?_
    obtain ⟨z_19, z_19e, z_19a, z_19b⟩ := kz_rem30 (z := (z_18 + (size_a0 - 1))) (by omega)
    rw [z_19e]
    refine lv_istore_n (lv' := [(2, .int (kz z_19)), (0, .ref a0), (1, .ref tg)]) hx hb dX1_remember_44 rfl hl (by decide) rfl (fun ls hl => ?_)
    refine lv_iconst (v := kz 0) hx hb dX1_remember_45 rfl ?_
    refine lv_istore_n (lv' := [(3, .int (kz 0)), (2, .int (kz z_19)), (0, .ref a0), (1, .ref tg)]) hx hb dX1_remember_46 rfl hl (by decide) rfl (fun ls hl => ?_)
    refine iz_loopA1 (α := Unit) (P := fun N9 _u9 k H locs ls => (0 ≤ k) ∧ (k ≤ 40) ∧ 40 - k ≤ (N9 : Int) ∧ lv_has ls 4 [(3, .int (kz k)), (2, .int (kz z_19)), (0, .ref a0), (1, .ref tg)] ∧ jv (dC, dI) ca A X H ∧ va_S A s.heap H locs ∧ kfm X [1, 218, 230, 231] Hp H ∧ va_at (dC, dI) vwCl (a0, .inr (1, [.ref uses_a0, .int (kz (size_a0 - 1)), .ref cb_a0, .ref ub_a0, .ref fb_a0, .int (kz z_18)])) H) 100000 () (x0 := 0) ?_ ⟨by omega, by omega, by omega, lv_sub hl [0, 1, 2, 3] rfl, hI, hS, hF, co_a0⟩
    intro n_20 _u9 k H locs ls ⟨n_20f0, n_20f1, n_20f2, hl, hI, hS, hF, co_a0⟩ ihn_20
    refine lv_iload_n hx hb dX1_remember_47 rfl (lv_at hl 0 rfl) ?_
    refine lv_aload_n hx hb dX1_remember_48 rfl (lv_at hl 3 rfl) ?_
    obtain ⟨fs9, co_21, jo9⟩ := jv_o9 hI g_tg
    obtain ⟨forms_21, rules_21, formCount_21, ruleCount_21, forbidden_21, rfl, g_forms_21, g_rules_21, ⟨formCount_21a, formCount_21b⟩, ⟨ruleCount_21a, ruleCount_21b⟩, g_forbidden_21, x_21_0, x_21_1, x_21_2⟩ := jo9
    refine iz_get (D := (dC, dI)) (ci := 9) (v := .int (kz formCount_21)) (C := RX9) (T := TX9) (N := 5) hx hb hts hinX9 hown hK co_21 rfl 2 (by decide) hL33 (fun _ h9 => h9) rfl dX1_remember_49 ?_
    refine iz_ge (tgt := 78) hx hb dX1_remember_52 (by decide) (by unfold rg2; omega) (fun br_22 => ?_) (fun br_22 => ?_)
    · refine lv_aload_n hx hb dX1_remember_78 rfl (lv_at hl 2 rfl) ?_
      refine iz_get (D := (dC, dI)) (ci := 1) (v := .ref fb_a0) (C := RX1) (T := TX1) (N := 6) hx hb hts hinX1 hown hK co_a0 rfl 4 (by decide) hL27 (fun _ h9 => h9) rfl dX1_remember_79 ?_
      refine lv_iload_n hx hb dX1_remember_82 rfl (lv_at hl 1 rfl) ?_
      refine lv_aload_n hx hb dX1_remember_83 rfl (lv_at hl 3 rfl) ?_
      refine iz_get (D := (dC, dI)) (ci := 9) (v := .int (kz formCount_21)) (C := RX9) (T := TX9) (N := 5) hx hb hts hinX9 hown hK co_21 rfl 2 (by decide) hL33 (fun _ h9 => h9) rfl dX1_remember_84 ?_
      obtain ⟨f_23, c_f_23, k_f_23⟩ := iv_o20 (jv_iv hI) g_fb_a0
      refine iz_iast hx hb hK 0 c_f_23 hS (jv_A hI g_fb_a0 (show (20 : Nat) ≠ 0 by decide)) rfl (by omega) (by decide) dX1_remember_87 (fun H locs c9 oq hS => ?_)
      have hI := jv_s20 hI g_fb_a0 k_f_23 c9 oq (by omega) (by omega) (by decide)
      have hF := fm_put hF g_fb_a0 (show (218 : Nat) ∈ [1, 218, 230, 231] by decide) oq
      have co_a0 := co_a0.kept (oq _ (kn_ne g_a0 g_fb_a0 (show (1 : Nat) ≠ 218 by decide)))
      have co_21 := co_21.kept (oq _ (kn_ne g_tg g_fb_a0 (show (9 : Nat) ≠ 218 by decide)))
      clear oq c9
      refine lv_aload_n hx hb dX1_remember_88 rfl (lv_at hl 2 rfl) ?_
      refine iz_get (D := (dC, dI)) (ci := 1) (v := .ref uses_a0) (C := RX1) (T := TX1) (N := 6) hx hb hts hinX1 hown hK co_a0 rfl 0 (by decide) hL9 (fun _ h9 => h9) rfl dX1_remember_89 ?_
      refine lv_iconst (v := kz 0) hx hb dX1_remember_92 rfl ?_
      refine lv_aload_n hx hb dX1_remember_93 rfl (lv_at hl 2 rfl) ?_
      refine iz_get (D := (dC, dI)) (ci := 1) (v := .ref ub_a0) (C := RX1) (T := TX1) (N := 6) hx hb hts hinX1 hown hK co_a0 rfl 3 (by decide) hL24 (fun _ h9 => h9) rfl dX1_remember_94 ?_
      refine lv_iload_n hx hb dX1_remember_97 rfl (lv_at hl 1 rfl) ?_
      obtain ⟨f_24, c_f_24, k_f_24⟩ := jv_q27 hI g_ub_a0
      refine jz_aald hx hb hK 7 c_f_24 rfl rfl (by omega) (by decide) dX1_remember_98 ?_
      obtain ⟨b_25, eb_25, g_b_25⟩ := k_f_24 (Int.toNat z_19) (by omega)
      rw [eb_25]
      have g_b_25 : X.1 b_25 = (231, 20, 20, -2147483648, 2147483647) := g_b_25
      refine W.eq (g2 := F0 m 99 ls [.ref b_25, .int (kz 0), .ref uses_a0]) rfl ?_
      refine lv_iconst (v := kz 0) hx hb dX1_remember_99 rfl ?_
      refine lv_bipush (v := kz 20) hx hb dX1_remember_100 (by decide) ?_
      obtain ⟨f_26, c_f_26, k_f_26⟩ := iv_o20 (jv_iv hI) g_uses_a0
      obtain ⟨f_27, c_f_27, k_f_27⟩ := iv_o20 (jv_iv hI) g_b_25
      refine iz_copyi (ty := .int) hx hb (by rw [hml]; exact hl.1.symm) hown (hts (.methodLink RX1 47 arraycopyName) (by decide +kernel)) (hts (.native arraycopyName) (by decide +kernel)) (hts (.static arraycopyName) (by decide +kernel)) (hts (.initialized "java/lang/System") (by decide +kernel)) hK 0 c_f_26 c_f_27 hS (jv_A hI g_b_25 (show (20 : Nat) ≠ 0 by decide)) rfl rfl (n := 20) (by omega) (fun _ _ => rfl) (Nat.le_of_ble_eq_true rfl) (Nat.le_of_ble_eq_true rfl) dX1_remember_102 (fun H locs c9 oq hS => ?_)
      have hI := jv_set hI c9 oq (by rw [g_b_25]; exact jv_e2 (by decide) (Or.inl (by decide)) (iv_e20 (ok20_full _)))
      have hF := fm_put hF g_b_25 (show (231 : Nat) ∈ [1, 218, 230, 231] by decide) oq
      have c_f_24 := c_f_24.kept (oq _ (kn_ne g_ub_a0 g_b_25 (show (217 : Nat) ≠ 231 by decide)))
      have c_f_26 := c_f_26.kept (oq _ (kn_ne g_uses_a0 g_b_25 (show (215 : Nat) ≠ 231 by decide)))
      have co_a0 := co_a0.kept (oq _ (kn_ne g_a0 g_b_25 (show (1 : Nat) ≠ 231 by decide)))
      have co_21 := co_21.kept (oq _ (kn_ne g_tg g_b_25 (show (9 : Nat) ≠ 231 by decide)))
      clear oq c9
      refine lv_aload_n hx hb dX1_remember_105 rfl (lv_at hl 2 rfl) ?_
      refine lv_dup hx hb dX1_remember_106 rfl ?_
      refine iz_get (D := (dC, dI)) (ci := 1) (v := .int (kz (size_a0 - 1))) (C := RX1) (T := TX1) (N := 6) hx hb hts hinX1 hown hK co_a0 rfl 1 (by decide) hL15 (fun _ h9 => h9) rfl dX1_remember_107 ?_
      refine lv_iconst (v := kz 1) hx hb dX1_remember_110 rfl ?_
      refine iz_iadd hx hb dX1_remember_111 ?_
      refine iz_put (D := (dC, dI)) (ci := 1) (v := .int (kz ((size_a0 - 1) + 1))) (ty := .int) (C := RX1) (T := TX1) (N := 6) hx hb hts hinX1 tyX1 tyX1_ok nmX1 hown hK co_a0 hS (jv_A hI g_a0 (show (30 : Nat) ≠ 0 by decide)) rfl 1 (by decide) hL15 (fun _ h9 => h9) rfl (by decide +kernel) rfl rfl (Nat.le_of_ble_eq_true rfl) dX1_remember_112 (fun H locs c9 oq hS => ?_)
      have hI := jv_set hI c9 oq (by rw [g_a0]; exact jv_c1 ⟨uses_a0, ((size_a0 - 1) + 1), cb_a0, ub_a0, fb_a0, z_18, rfl, g_uses_a0, ⟨by omega, by omega⟩, g_cb_a0, g_ub_a0, g_fb_a0, ⟨by omega, by omega⟩⟩)
      have hF := fm_put hF g_a0 (show (1 : Nat) ∈ [1, 218, 230, 231] by decide) oq
      have co_21 := co_21.kept (oq _ (kn_ne g_tg g_a0 (show (9 : Nat) ≠ 1 by decide)))
      have c_f_24 := c_f_24.kept (oq _ (kn_ne g_ub_a0 g_a0 (show (217 : Nat) ≠ 1 by decide)))
      have c_f_26 := c_f_26.kept (oq _ (kn_ne g_uses_a0 g_a0 (show (215 : Nat) ≠ 1 by decide)))
      have co_a0 := c9
      clear oq c9
      exact W.vret hx hb hr (fun t9 ht hW => ⟨⟨(), rfl, trivial, jK_warm hW ⟨hK, hN⟩, by rw [ht]; exact ⟨hI, hF⟩⟩, hS.F ht⟩) hS.2.2 dX1_remember_115
    · refine lv_aload_n hx hb dX1_remember_55 rfl (lv_at hl 2 rfl) ?_
      refine iz_get (D := (dC, dI)) (ci := 1) (v := .ref cb_a0) (C := RX1) (T := TX1) (N := 6) hx hb hts hinX1 hown hK co_a0 rfl 2 (by decide) hL21 (fun _ h9 => h9) rfl dX1_remember_56 ?_
      refine lv_iload_n hx hb dX1_remember_59 rfl (lv_at hl 1 rfl) ?_
      obtain ⟨f_28, c_f_28, k_f_28⟩ := jv_q27 hI g_cb_a0
      refine jz_aald hx hb hK 7 c_f_28 rfl rfl (by omega) (by decide) dX1_remember_60 ?_
      obtain ⟨b_29, eb_29, g_b_29⟩ := k_f_28 (Int.toNat z_19) (by omega)
      rw [eb_29]
      have g_b_29 : X.1 b_29 = (230, 20, 40, -2147483648, 2147483647) := g_b_29
      refine W.eq (g2 := F0 m 61 ls [.ref b_29]) rfl ?_
      refine lv_iload_n hx hb dX1_remember_61 rfl (lv_at hl 0 rfl) ?_
      refine lv_aload_n hx hb dX1_remember_62 rfl (lv_at hl 3 rfl) ?_
      refine iz_get (D := (dC, dI)) (ci := 9) (v := .ref forms_21) (C := RX9) (T := TX9) (N := 5) hx hb hts hinX9 hown hK co_21 rfl 0 (by decide) hL38 (fun _ h9 => h9) rfl dX1_remember_63 ?_
      refine lv_iload_n hx hb dX1_remember_66 rfl (lv_at hl 0 rfl) ?_
      obtain ⟨f_30, c_f_30, k_f_30⟩ := jv_q24 hI g_forms_21
      refine jz_aald hx hb hK 4 c_f_30 rfl rfl (by omega) (by decide) dX1_remember_67 ?_
      obtain ⟨b_31, eb_31⟩ : ∃ b9 : Nat, f_30 (Int.toNat k) = some b9 := Option.ne_none_iff_exists'.mp ((k_f_30 (Int.toNat k) (by omega)).2 (by omega))
      have g_b_31 := (k_f_30 (Int.toNat k) (by omega)).1 b_31 eb_31
      rw [eb_31]
      refine W.eq (g2 := F0 m 68 ls [.ref b_31, .int (kz k), .ref b_29]) rfl ?_
      obtain ⟨fs9, co_32, jo9⟩ := jv_o2 hI g_b_31
      obtain ⟨ln_32, letters_32, kind_32, stem_32, kept_32, cost_32, number_32, ends_32, begins_32, rfl, g_letters_32, ⟨kind_32a, kind_32b⟩, ⟨stem_32a, stem_32b⟩, ⟨kept_32a, kept_32b⟩, ⟨cost_32a, cost_32b⟩, ⟨number_32a, number_32b⟩, ⟨ends_32a, ends_32b⟩, ⟨begins_32a, begins_32b⟩, x_32_0, x_32_1, x_32_2, x_32_3⟩ := jo9
      refine iz_get (D := (dC, dI)) (ci := 2) (v := .int (kz cost_32)) (C := RX2) (T := TX2) (N := 8) hx hb hts hinX2 hown hK co_32 rfl 4 (by decide) hL42 (fun _ h9 => h9) rfl dX1_remember_68 ?_
      obtain ⟨f_33, c_f_33, k_f_33⟩ := iv_o20 (jv_iv hI) g_b_29
      refine iz_any (fun z_34 z_34a z_34b z_34e => ?_)
      refine iz_iast hx hb hK 0 c_f_33 hS (jv_A hI g_b_29 (show (20 : Nat) ≠ 0 by decide)) rfl (by omega) (by decide) dX1_remember_71 (fun H locs c9 oq hS => ?_)
      have hI := jv_s20 hI g_b_29 k_f_33 c9 oq (by omega) (by omega) (by decide)
      have hF := fm_put hF g_b_29 (show (230 : Nat) ∈ [1, 218, 230, 231] by decide) oq
      have c_f_28 := c_f_28.kept (oq _ (kn_ne g_cb_a0 g_b_29 (show (216 : Nat) ≠ 230 by decide)))
      have c_f_30 := c_f_30.kept (oq _ (kn_ne g_forms_21 g_b_29 (show (212 : Nat) ≠ 230 by decide)))
      have co_a0 := co_a0.kept (oq _ (kn_ne g_a0 g_b_29 (show (1 : Nat) ≠ 230 by decide)))
      have co_21 := co_21.kept (oq _ (kn_ne g_tg g_b_29 (show (9 : Nat) ≠ 230 by decide)))
      have co_32 := co_32.kept (oq _ (kn_ne g_b_31 g_b_29 (show (2 : Nat) ≠ 230 by decide)))
      clear oq c9
      refine lv_iinc (v := kz (k + 1)) (lv' := [(3, .int (kz (k + 1))), (2, .int (kz z_19)), (0, .ref a0), (1, .ref tg)]) hx hb dX1_remember_72 hl (k := 0) rfl (kz_add k 1) (by decide) rfl (fun ls hl => ?_)
      refine lv_goto (tgt := 47) hx hb dX1_remember_75 (by decide) ?_
      exact ihn_20 (n_20 - 1) (by omega) () (k + 1) _ _ _ ⟨by omega, by omega, by omega, lv_sub hl [0, 1, 2, 3] rfl, hI, hS, hF, co_a0⟩
set_option maxHeartbeats 4000000 in
set_option maxRecDepth 100000 in
/-- X1_restore -/
theorem c_restore (l : Launch) (dC : Nat → ClassId) (dI : Nat → Nat → Nat) (ca : Nat → ClassId) (A : Nat → Prop) (X : jG) (hU : jU X) (Hp : Heap) (a0 : Nat) (tg : Nat) (g_a0 : X.1 a0 = (1, 30, 0, 0, 0)) (g_tg : X.1 tg = (9, 30, 0, 0, 0)) : Met l yX1_restore wsX1_restore ({ frames := 1, cells := 0, slots := 0, locals := 18 }) (va_Pc [.ref a0, .ref tg] (fun U => U.heap = Hp ∧ jK (dC, dI) ca U ∧ jv (dC, dI) ca A X U.heap)) (va_Qi (fun (r : Int32) (u : Unit) => r = kz 1 ∨ r = kz 0) (fun u U => jK (dC, dI) ca U ∧ jv (dC, dI) ca A X U.heap ∧ kfm X [1, 2, 215] Hp U.heap) A) 0 0 A := by
  refine Met.ofW (cc := cX1_restore) (maxL := 4) (ret := (some .boolean)) (by decide) rfl ?_
  intro p e s m args below meth c s₁ B hml hv
  obtain ⟨rfl, hHp, ⟨hK, hN⟩, hI⟩ := hv
  have hx := B.exec
  have hb := B.bytes
  have hr := B.returns
  have hts := atoms_spec (ws := wsX1_restore) B.pre
  have hown : s.vm.findClass RX1 = some m.cls := findClass_of_methodNamed B.named
  have hL15 := hts (.fieldLink RX1 15 "JoinBench$Choices" "size" "I") (by decide +kernel)
  have hL30 := hts (.fieldLink RX1 30 "JoinBench$Choices" "oldest" "I") (by decide +kernel)
  have hL27 := hts (.fieldLink RX1 27 "JoinBench$Choices" "formsBefore" "[I") (by decide +kernel)
  have hL33 := hts (.fieldLink RX1 33 "JoinBench$Tongue" "formCount" "I") (by decide +kernel)
  have hL38 := hts (.fieldLink RX1 38 "JoinBench$Tongue" "forms" "[LJoinBench$Form;") (by decide +kernel)
  have hL21 := hts (.fieldLink RX1 21 "JoinBench$Choices" "costsBefore" "[[I") (by decide +kernel)
  have hL42 := hts (.fieldLink RX1 42 "JoinBench$Form" "cost" "I") (by decide +kernel)
  have hL24 := hts (.fieldLink RX1 24 "JoinBench$Choices" "usesBefore" "[[I") (by decide +kernel)
  have hL9 := hts (.fieldLink RX1 9 "JoinBench$Choices" "uses" "[I") (by decide +kernel)
  have hinX1 : ∀ w ∈ u_ws RX1 TX1 6, w ∈ wsX1_restore := by decide +kernel
  have hinX2 : ∀ w ∈ u_ws RX2 TX2 8, w ∈ wsX1_restore := by decide +kernel
  have hinX9 : ∀ w ∈ u_ws RX9 TX9 5, w ∈ wsX1_restore := by decide +kernel
  obtain ⟨H, hH⟩ : ∃ H : Heap, H = s.heap := ⟨_, rfl⟩
  have hS : va_S A s.heap H [] := by rw [hH]; exact va_S.rf
  have hF : kfm X [1, 2, 215] Hp H := by rw [hH, hHp]; exact fm_rf _ _ _
  rw [← hH] at hI ⊢
  clear hH
  have hl := lv_entry ([.ref a0, .ref tg]) (n := 4) (Nat.le_of_ble_eq_true rfl)
  rw [lg_entry_eq]
  generalize (lg_sl ([.ref a0, .ref tg]) ++ List.replicate (4 - (lg_sl ([.ref a0, .ref tg])).length) Slot.unset).toArray = ls at hl ⊢
  have hl : lv_has ls 4 [(0, .ref a0), (1, .ref tg)] := hl
  refine lv_aload_n hx hb dX1_restore_0 rfl (lv_at hl 0 rfl) ?_
  obtain ⟨fs9, co_1, jo9⟩ := jv_o1 hI g_a0
  obtain ⟨uses_1, size_1, cb_1, ub_1, fb_1, oldest_1, rfl, g_uses_1, ⟨size_1a, size_1b⟩, g_cb_1, g_ub_1, g_fb_1, ⟨oldest_1a, oldest_1b⟩⟩ := jo9
  refine iz_get (D := (dC, dI)) (ci := 1) (v := .int (kz size_1)) (C := RX1) (T := TX1) (N := 6) hx hb hts hinX1 hown hK co_1 rfl 1 (by decide) hL15 (fun _ h9 => h9) rfl dX1_restore_1 ?_
  refine iz_nez (tgt := 9) hx hb dX1_restore_4 (by decide) (by unfold rg2; omega) (fun br_2 => ?_) (fun br_2 => ?_)
  · refine lv_aload_n hx hb dX1_restore_9 rfl (lv_at hl 0 rfl) ?_
    refine lv_dup hx hb dX1_restore_10 rfl ?_
    refine iz_get (D := (dC, dI)) (ci := 1) (v := .int (kz size_1)) (C := RX1) (T := TX1) (N := 6) hx hb hts hinX1 hown hK co_1 rfl 1 (by decide) hL15 (fun _ h9 => h9) rfl dX1_restore_11 ?_
    refine lv_iconst (v := kz 1) hx hb dX1_restore_14 rfl ?_
    refine iz_isub hx hb dX1_restore_15 ?_
    refine iz_put (D := (dC, dI)) (ci := 1) (v := .int (kz (size_1 - 1))) (ty := .int) (C := RX1) (T := TX1) (N := 6) hx hb hts hinX1 tyX1 tyX1_ok nmX1 hown hK co_1 hS (jv_A hI g_a0 (show (30 : Nat) ≠ 0 by decide)) rfl 1 (by decide) hL15 (fun _ h9 => h9) rfl (by decide +kernel) rfl rfl (Nat.le_of_ble_eq_true rfl) dX1_restore_16 (fun H locs c9 oq hS => ?_)
    have hI := jv_set hI c9 oq (by rw [g_a0]; exact jv_c1 ⟨uses_1, (size_1 - 1), cb_1, ub_1, fb_1, oldest_1, rfl, g_uses_1, ⟨by omega, by omega⟩, g_cb_1, g_ub_1, g_fb_1, ⟨by omega, by omega⟩⟩)
    have hF := fm_put hF g_a0 (show (1 : Nat) ∈ [1, 2, 215] by decide) oq
    have co_1 := c9
    clear oq c9
    refine lv_aload_n hx hb dX1_restore_19 rfl (lv_at hl 0 rfl) ?_
    refine iz_get (D := (dC, dI)) (ci := 1) (v := .int (kz oldest_1)) (C := RX1) (T := TX1) (N := 6) hx hb hts hinX1 hown hK co_1 rfl 5 (by decide) hL30 (fun _ h9 => h9) rfl dX1_restore_20 ?_
    refine lv_aload_n hx hb dX1_restore_23 rfl (lv_at hl 0 rfl) ?_
    refine iz_get (D := (dC, dI)) (ci := 1) (v := .int (kz (size_1 - 1))) (C := RX1) (T := TX1) (N := 6) hx hb hts hinX1 hown hK co_1 rfl 1 (by decide) hL15 (fun _ h9 => h9) rfl dX1_restore_24 ?_
    refine iz_iadd hx hb dX1_restore_27 ?_
    refine lv_bipush (v := kz 30) hx hb dX1_restore_28 (by decide) ?_
    refine lv_irem hx hb dX1_restore_30 (by decide) ?_
    obtain ⟨z_3, z_3e, z_3a, z_3b⟩ := kz_rem30 (z := (oldest_1 + (size_1 - 1))) (by omega)
    rw [z_3e]
    refine lv_istore_n (lv' := [(2, .int (kz z_3)), (0, .ref a0), (1, .ref tg)]) hx hb dX1_restore_31 rfl hl (by decide) rfl (fun ls hl => ?_)
    refine lv_iconst (v := kz 0) hx hb dX1_restore_32 rfl ?_
    refine lv_istore_n (lv' := [(3, .int (kz 0)), (2, .int (kz z_3)), (0, .ref a0), (1, .ref tg)]) hx hb dX1_restore_33 rfl hl (by decide) rfl (fun ls hl => ?_)
    refine iz_loopA1 (α := Unit) (P := fun N9 _u9 k H locs ls => (0 ≤ k) ∧ (k ≤ 40) ∧ 40 - k ≤ (N9 : Int) ∧ lv_has ls 4 [(3, .int (kz k)), (2, .int (kz z_3)), (0, .ref a0), (1, .ref tg)] ∧ jv (dC, dI) ca A X H ∧ va_S A s.heap H locs ∧ kfm X [1, 2, 215] Hp H) 100000 () (x0 := 0) ?_ ⟨by omega, by omega, by omega, lv_sub hl [0, 1, 2, 3] rfl, hI, hS, hF⟩
    intro n_4 _u9 k H locs ls ⟨n_4f0, n_4f1, n_4f2, hl, hI, hS, hF⟩ ihn_4
    refine lv_iload_n hx hb dX1_restore_34 rfl (lv_at hl 0 rfl) ?_
    refine lv_aload_n hx hb dX1_restore_35 rfl (lv_at hl 2 rfl) ?_
    obtain ⟨fs9, co_5, jo9⟩ := jv_o1 hI g_a0
    obtain ⟨uses_5, size_5, cb_5, ub_5, fb_5, oldest_5, rfl, g_uses_5, ⟨size_5a, size_5b⟩, g_cb_5, g_ub_5, g_fb_5, ⟨oldest_5a, oldest_5b⟩⟩ := jo9
    have e9 : uses_1 = uses_5 := jU_eq hU g_uses_1 g_uses_5 (show (20 : Nat) ≠ 0 by decide) (show uq 215 = true by decide)
    subst e9
    have e9 : cb_1 = cb_5 := jU_eq hU g_cb_1 g_cb_5 (show (27 : Nat) ≠ 0 by decide) (show uq 216 = true by decide)
    subst e9
    have e9 : ub_1 = ub_5 := jU_eq hU g_ub_1 g_ub_5 (show (27 : Nat) ≠ 0 by decide) (show uq 217 = true by decide)
    subst e9
    have e9 : fb_1 = fb_5 := jU_eq hU g_fb_1 g_fb_5 (show (20 : Nat) ≠ 0 by decide) (show uq 218 = true by decide)
    subst e9
    refine iz_get (D := (dC, dI)) (ci := 1) (v := .ref fb_1) (C := RX1) (T := TX1) (N := 6) hx hb hts hinX1 hown hK co_5 rfl 4 (by decide) hL27 (fun _ h9 => h9) rfl dX1_restore_36 ?_
    refine lv_iload_n hx hb dX1_restore_39 rfl (lv_at hl 1 rfl) ?_
    obtain ⟨f_6, c_f_6, k_f_6⟩ := iv_o20 (jv_iv hI) g_fb_5
    refine iz_iald hx hb hK 0 c_f_6 rfl (by omega) (by decide) dX1_restore_40 ?_
    obtain ⟨v_7a, v_7b, -⟩ := k_f_6 z_3 (by omega)
    obtain ⟨v_7, ev_7⟩ : ∃ z9 : Int, ge1 f_6 z_3 = z9 := ⟨_, rfl⟩
    rw [ev_7] at v_7a v_7b ⊢
    refine iz_ge (tgt := 75) hx hb dX1_restore_41 (by decide) (by unfold rg2; omega) (fun br_8 => ?_) (fun br_8 => ?_)
    · refine lv_aload_n hx hb dX1_restore_75 rfl (lv_at hl 2 rfl) ?_
      refine iz_get (D := (dC, dI)) (ci := 1) (v := .ref ub_1) (C := RX1) (T := TX1) (N := 6) hx hb hts hinX1 hown hK co_5 rfl 3 (by decide) hL24 (fun _ h9 => h9) rfl dX1_restore_76 ?_
      refine lv_iload_n hx hb dX1_restore_79 rfl (lv_at hl 1 rfl) ?_
      obtain ⟨f_9, c_f_9, k_f_9⟩ := jv_q27 hI g_ub_5
      refine jz_aald hx hb hK 7 c_f_9 rfl rfl (by omega) (by decide) dX1_restore_80 ?_
      obtain ⟨b_10, eb_10, g_b_10⟩ := k_f_9 (Int.toNat z_3) (by omega)
      rw [eb_10]
      have g_b_10 : X.1 b_10 = (231, 20, 20, -2147483648, 2147483647) := g_b_10
      refine W.eq (g2 := F0 m 81 ls [.ref b_10]) rfl ?_
      refine lv_iconst (v := kz 0) hx hb dX1_restore_81 rfl ?_
      refine lv_aload_n hx hb dX1_restore_82 rfl (lv_at hl 2 rfl) ?_
      refine iz_get (D := (dC, dI)) (ci := 1) (v := .ref uses_1) (C := RX1) (T := TX1) (N := 6) hx hb hts hinX1 hown hK co_5 rfl 0 (by decide) hL9 (fun _ h9 => h9) rfl dX1_restore_83 ?_
      refine lv_iconst (v := kz 0) hx hb dX1_restore_86 rfl ?_
      refine lv_bipush (v := kz 20) hx hb dX1_restore_87 (by decide) ?_
      obtain ⟨f_11, c_f_11, k_f_11⟩ := iv_o20 (jv_iv hI) g_b_10
      obtain ⟨f_12, c_f_12, k_f_12⟩ := iv_o20 (jv_iv hI) g_uses_5
      refine iz_copyi (ty := .int) hx hb (by rw [hml]; exact hl.1.symm) hown (hts (.methodLink RX1 47 arraycopyName) (by decide +kernel)) (hts (.native arraycopyName) (by decide +kernel)) (hts (.static arraycopyName) (by decide +kernel)) (hts (.initialized "java/lang/System") (by decide +kernel)) hK 0 c_f_11 c_f_12 hS (jv_A hI g_uses_5 (show (20 : Nat) ≠ 0 by decide)) rfl rfl (n := 20) (by omega) (fun _ _ => rfl) (Nat.le_of_ble_eq_true rfl) (Nat.le_of_ble_eq_true rfl) dX1_restore_89 (fun H locs c9 oq hS => ?_)
      have hI := jv_set hI c9 oq (by rw [g_uses_5]; exact jv_e2 (by decide) (Or.inl (by decide)) (iv_e20 (ok20_full _)))
      have hF := fm_put hF g_uses_5 (show (215 : Nat) ∈ [1, 2, 215] by decide) oq
      have c_f_6 := c_f_6.kept (oq _ (kn_ne g_fb_5 g_uses_5 (show (218 : Nat) ≠ 215 by decide)))
      have c_f_9 := c_f_9.kept (oq _ (kn_ne g_ub_5 g_uses_5 (show (217 : Nat) ≠ 215 by decide)))
      have c_f_11 := c_f_11.kept (oq _ (kn_ne g_b_10 g_uses_5 (show (231 : Nat) ≠ 215 by decide)))
      have co_5 := co_5.kept (oq _ (kn_ne g_a0 g_uses_5 (show (1 : Nat) ≠ 215 by decide)))
      clear oq c9
      refine lv_iconst (v := kz 1) hx hb dX1_restore_92 rfl ?_
      exact W.zret (v := kz 1) hx hb hr (by decide) (fun t9 ht hW => ⟨⟨kz 1, (), rfl, Or.inl rfl, jK_warm hW ⟨hK, hN⟩, by rw [ht]; exact ⟨hI, hF⟩⟩, hS.F ht⟩) hS.2.2 dX1_restore_93
    · refine lv_iload_n hx hb dX1_restore_44 rfl (lv_at hl 0 rfl) ?_
      refine lv_aload_n hx hb dX1_restore_45 rfl (lv_at hl 3 rfl) ?_
      obtain ⟨fs9, co_13, jo9⟩ := jv_o9 hI g_tg
      obtain ⟨forms_13, rules_13, formCount_13, ruleCount_13, forbidden_13, rfl, g_forms_13, g_rules_13, ⟨formCount_13a, formCount_13b⟩, ⟨ruleCount_13a, ruleCount_13b⟩, g_forbidden_13, x_13_0, x_13_1, x_13_2⟩ := jo9
      refine iz_get (D := (dC, dI)) (ci := 9) (v := .int (kz formCount_13)) (C := RX9) (T := TX9) (N := 5) hx hb hts hinX9 hown hK co_13 rfl 2 (by decide) hL33 (fun _ h9 => h9) rfl dX1_restore_46 ?_
      refine iz_ge (tgt := 75) hx hb dX1_restore_49 (by decide) (by unfold rg2; omega) (fun br_14 => ?_) (fun br_14 => ?_)
      · refine lv_aload_n hx hb dX1_restore_75 rfl (lv_at hl 2 rfl) ?_
        refine iz_get (D := (dC, dI)) (ci := 1) (v := .ref ub_1) (C := RX1) (T := TX1) (N := 6) hx hb hts hinX1 hown hK co_5 rfl 3 (by decide) hL24 (fun _ h9 => h9) rfl dX1_restore_76 ?_
        refine lv_iload_n hx hb dX1_restore_79 rfl (lv_at hl 1 rfl) ?_
        obtain ⟨f_15, c_f_15, k_f_15⟩ := jv_q27 hI g_ub_5
        refine jz_aald hx hb hK 7 c_f_15 rfl rfl (by omega) (by decide) dX1_restore_80 ?_
        obtain ⟨b_16, eb_16, g_b_16⟩ := k_f_15 (Int.toNat z_3) (by omega)
        rw [eb_16]
        have g_b_16 : X.1 b_16 = (231, 20, 20, -2147483648, 2147483647) := g_b_16
        refine W.eq (g2 := F0 m 81 ls [.ref b_16]) rfl ?_
        refine lv_iconst (v := kz 0) hx hb dX1_restore_81 rfl ?_
        refine lv_aload_n hx hb dX1_restore_82 rfl (lv_at hl 2 rfl) ?_
        refine iz_get (D := (dC, dI)) (ci := 1) (v := .ref uses_1) (C := RX1) (T := TX1) (N := 6) hx hb hts hinX1 hown hK co_5 rfl 0 (by decide) hL9 (fun _ h9 => h9) rfl dX1_restore_83 ?_
        refine lv_iconst (v := kz 0) hx hb dX1_restore_86 rfl ?_
        refine lv_bipush (v := kz 20) hx hb dX1_restore_87 (by decide) ?_
        obtain ⟨f_17, c_f_17, k_f_17⟩ := iv_o20 (jv_iv hI) g_b_16
        obtain ⟨f_18, c_f_18, k_f_18⟩ := iv_o20 (jv_iv hI) g_uses_5
        refine iz_copyi (ty := .int) hx hb (by rw [hml]; exact hl.1.symm) hown (hts (.methodLink RX1 47 arraycopyName) (by decide +kernel)) (hts (.native arraycopyName) (by decide +kernel)) (hts (.static arraycopyName) (by decide +kernel)) (hts (.initialized "java/lang/System") (by decide +kernel)) hK 0 c_f_17 c_f_18 hS (jv_A hI g_uses_5 (show (20 : Nat) ≠ 0 by decide)) rfl rfl (n := 20) (by omega) (fun _ _ => rfl) (Nat.le_of_ble_eq_true rfl) (Nat.le_of_ble_eq_true rfl) dX1_restore_89 (fun H locs c9 oq hS => ?_)
        have hI := jv_set hI c9 oq (by rw [g_uses_5]; exact jv_e2 (by decide) (Or.inl (by decide)) (iv_e20 (ok20_full _)))
        have hF := fm_put hF g_uses_5 (show (215 : Nat) ∈ [1, 2, 215] by decide) oq
        have c_f_6 := c_f_6.kept (oq _ (kn_ne g_fb_5 g_uses_5 (show (218 : Nat) ≠ 215 by decide)))
        have c_f_15 := c_f_15.kept (oq _ (kn_ne g_ub_5 g_uses_5 (show (217 : Nat) ≠ 215 by decide)))
        have c_f_17 := c_f_17.kept (oq _ (kn_ne g_b_16 g_uses_5 (show (231 : Nat) ≠ 215 by decide)))
        have co_5 := co_5.kept (oq _ (kn_ne g_a0 g_uses_5 (show (1 : Nat) ≠ 215 by decide)))
        have co_13 := co_13.kept (oq _ (kn_ne g_tg g_uses_5 (show (9 : Nat) ≠ 215 by decide)))
        clear oq c9
        refine lv_iconst (v := kz 1) hx hb dX1_restore_92 rfl ?_
        exact W.zret (v := kz 1) hx hb hr (by decide) (fun t9 ht hW => ⟨⟨kz 1, (), rfl, Or.inl rfl, jK_warm hW ⟨hK, hN⟩, by rw [ht]; exact ⟨hI, hF⟩⟩, hS.F ht⟩) hS.2.2 dX1_restore_93
      · refine lv_aload_n hx hb dX1_restore_52 rfl (lv_at hl 3 rfl) ?_
        refine iz_get (D := (dC, dI)) (ci := 9) (v := .ref forms_13) (C := RX9) (T := TX9) (N := 5) hx hb hts hinX9 hown hK co_13 rfl 0 (by decide) hL38 (fun _ h9 => h9) rfl dX1_restore_53 ?_
        refine lv_iload_n hx hb dX1_restore_56 rfl (lv_at hl 0 rfl) ?_
        obtain ⟨f_19, c_f_19, k_f_19⟩ := jv_q24 hI g_forms_13
        refine jz_aald hx hb hK 4 c_f_19 rfl rfl (by omega) (by decide) dX1_restore_57 ?_
        obtain ⟨b_20, eb_20⟩ : ∃ b9 : Nat, f_19 (Int.toNat k) = some b9 := Option.ne_none_iff_exists'.mp ((k_f_19 (Int.toNat k) (by omega)).2 (by omega))
        have g_b_20 := (k_f_19 (Int.toNat k) (by omega)).1 b_20 eb_20
        rw [eb_20]
        refine W.eq (g2 := F0 m 58 ls [.ref b_20]) rfl ?_
        refine lv_aload_n hx hb dX1_restore_58 rfl (lv_at hl 2 rfl) ?_
        refine iz_get (D := (dC, dI)) (ci := 1) (v := .ref cb_1) (C := RX1) (T := TX1) (N := 6) hx hb hts hinX1 hown hK co_5 rfl 2 (by decide) hL21 (fun _ h9 => h9) rfl dX1_restore_59 ?_
        refine lv_iload_n hx hb dX1_restore_62 rfl (lv_at hl 1 rfl) ?_
        obtain ⟨f_21, c_f_21, k_f_21⟩ := jv_q27 hI g_cb_5
        refine jz_aald hx hb hK 7 c_f_21 rfl rfl (by omega) (by decide) dX1_restore_63 ?_
        obtain ⟨b_22, eb_22, g_b_22⟩ := k_f_21 (Int.toNat z_3) (by omega)
        rw [eb_22]
        have g_b_22 : X.1 b_22 = (230, 20, 40, -2147483648, 2147483647) := g_b_22
        refine W.eq (g2 := F0 m 64 ls [.ref b_22, .ref b_20]) rfl ?_
        refine lv_iload_n hx hb dX1_restore_64 rfl (lv_at hl 0 rfl) ?_
        obtain ⟨f_23, c_f_23, k_f_23⟩ := iv_o20 (jv_iv hI) g_b_22
        refine iz_iald hx hb hK 0 c_f_23 rfl (by omega) (by decide) dX1_restore_65 ?_
        obtain ⟨v_24a, v_24b, -⟩ := k_f_23 k (by omega)
        obtain ⟨v_24, ev_24⟩ : ∃ z9 : Int, ge1 f_23 k = z9 := ⟨_, rfl⟩
        rw [ev_24] at v_24a v_24b ⊢
        obtain ⟨fs9, co_25, jo9⟩ := jv_o2 hI g_b_20
        obtain ⟨ln_25, letters_25, kind_25, stem_25, kept_25, cost_25, number_25, ends_25, begins_25, rfl, g_letters_25, ⟨kind_25a, kind_25b⟩, ⟨stem_25a, stem_25b⟩, ⟨kept_25a, kept_25b⟩, ⟨cost_25a, cost_25b⟩, ⟨number_25a, number_25b⟩, ⟨ends_25a, ends_25b⟩, ⟨begins_25a, begins_25b⟩, x_25_0, x_25_1, x_25_2, x_25_3⟩ := jo9
        refine iz_put (D := (dC, dI)) (ci := 2) (v := .int (kz v_24)) (ty := .int) (C := RX2) (T := TX2) (N := 8) hx hb hts hinX2 tyX2 tyX2_ok nmX2 hown hK co_25 hS (jv_A hI g_b_20 (show (30 : Nat) ≠ 0 by decide)) rfl 4 (by decide) hL42 (fun _ h9 => h9) rfl (by decide +kernel) rfl rfl (Nat.le_of_ble_eq_true rfl) dX1_restore_66 (fun H locs c9 oq hS => ?_)
        have hI := jv_set hI c9 oq (by rw [g_b_20]; exact jv_c2 ⟨ln_25, letters_25, kind_25, stem_25, kept_25, v_24, number_25, ends_25, begins_25, rfl, g_letters_25, ⟨by omega, by omega⟩, ⟨by omega, by omega⟩, ⟨by omega, by omega⟩, ⟨by omega, by omega⟩, ⟨by omega, by omega⟩, ⟨by omega, by omega⟩, ⟨by omega, by omega⟩, by omega, by omega, x_25_2, by omega⟩)
        have hF := fm_put hF g_b_20 (show (2 : Nat) ∈ [1, 2, 215] by decide) oq
        have co_5 := co_5.kept (oq _ (kn_ne g_a0 g_b_20 (show (1 : Nat) ≠ 2 by decide)))
        have co_13 := co_13.kept (oq _ (kn_ne g_tg g_b_20 (show (9 : Nat) ≠ 2 by decide)))
        have c_f_6 := c_f_6.kept (oq _ (kn_ne g_fb_5 g_b_20 (show (218 : Nat) ≠ 2 by decide)))
        have c_f_19 := c_f_19.kept (oq _ (kn_ne g_forms_13 g_b_20 (show (212 : Nat) ≠ 2 by decide)))
        have c_f_21 := c_f_21.kept (oq _ (kn_ne g_cb_5 g_b_20 (show (216 : Nat) ≠ 2 by decide)))
        have c_f_23 := c_f_23.kept (oq _ (kn_ne g_b_22 g_b_20 (show (230 : Nat) ≠ 2 by decide)))
        have co_25 := c9
        clear oq c9
        refine lv_iinc (v := kz (k + 1)) (lv' := [(3, .int (kz (k + 1))), (2, .int (kz z_3)), (0, .ref a0), (1, .ref tg)]) hx hb dX1_restore_69 hl (k := 0) rfl (kz_add k 1) (by decide) rfl (fun ls hl => ?_)
        refine lv_goto (tgt := 34) hx hb dX1_restore_72 (by decide) ?_
        exact ihn_4 (n_4 - 1) (by omega) () (k + 1) _ _ _ ⟨by omega, by omega, by omega, lv_sub hl [0, 1, 2, 3] rfl, hI, hS, hF⟩
  · refine lv_iconst (v := kz 0) hx hb dX1_restore_7 rfl ?_
    exact W.zret (v := kz 0) hx hb hr (by decide) (fun t9 ht hW => ⟨⟨kz 0, (), rfl, Or.inr rfl, jK_warm hW ⟨hK, hN⟩, by rw [ht]; exact ⟨hI, hF⟩⟩, hS.F ht⟩) hS.2.2 dX1_restore_8
set_option maxHeartbeats 4000000 in
set_option maxRecDepth 100000 in
/-- X10_cappedProduct -/
theorem c_cappedProduct (l : Launch) (dC : Nat → ClassId) (dI : Nat → Nat → Nat) (ca : Nat → ClassId) (A : Nat → Prop) (X : jG) (hU : jU X) (x : Int64) (y : Int64) : Met l yX10_cappedProduct wsX10_cappedProduct ({ frames := 2, cells := 0, slots := 0, locals := 36 }) (va_Pc [.long x, .long y] (fun U => jK (dC, dI) ca U ∧ jv (dC, dI) ca A X U.heap)) (vp_Sl (fun r => True)) 0 0 (fun _ => False) := by
  refine Met.ofW (cc := cX10_cappedProduct) (maxL := 4) (ret := (some .long)) (by decide) rfl ?_
  intro p e s m args below meth c s₁ B hml hv
  obtain ⟨rfl, ⟨hK, hN⟩, hI⟩ := hv
  have hx := B.exec
  have hb := B.bytes
  have hr := B.returns
  have hts := atoms_spec (ws := wsX10_cappedProduct) B.pre
  have hown : s.vm.findClass RX10 = some m.cls := findClass_of_methodNamed B.named
  have hl := lv_entry ([.long x, .long y]) (n := 4) (Nat.le_of_ble_eq_true rfl)
  rw [lg_entry_eq]
  generalize (lg_sl ([.long x, .long y]) ++ List.replicate (4 - (lg_sl ([.long x, .long y])).length) Slot.unset).toArray = ls at hl ⊢
  have hl : lv_has ls 4 [(0, .long x), (2, .long y)] := hl
  refine lv_lload_n hx hb dX10_cappedProduct_0 rfl (lv_at hl 0 rfl) ?_
  refine lv_lconst (v := 0) hx hb dX10_cappedProduct_1 (by decide) ?_
  refine W.lcmp hx hb dX10_cappedProduct_2 ?_
  refine iz_any (fun z_1 z_1a z_1b z_1e => ?_)
  refine iz_lez (tgt := 12) hx hb dX10_cappedProduct_3 (by decide) (by unfold rg2; omega) (fun br_2 => ?_) (fun br_2 => ?_)
  · refine lv_lconst (v := 0) hx hb dX10_cappedProduct_12 (by decide) ?_
    exact W.lret (v := 0) hx hb hr (fun t9 ht hW => ⟨0, rfl, trivial, ht⟩) (fun q h => absurd h List.not_mem_nil) dX10_cappedProduct_13
  · refine lv_lload_n hx hb dX10_cappedProduct_6 rfl (lv_at hl 1 rfl) ?_
    refine lv_lconst (v := 0) hx hb dX10_cappedProduct_7 (by decide) ?_
    refine W.lcmp hx hb dX10_cappedProduct_8 ?_
    refine iz_any (fun z_3 z_3a z_3b z_3e => ?_)
    refine iz_gtz (tgt := 14) hx hb dX10_cappedProduct_9 (by decide) (by unfold rg2; omega) (fun br_4 => ?_) (fun br_4 => ?_)
    · refine lv_lload_n hx hb dX10_cappedProduct_14 rfl (lv_at hl 0 rfl) ?_
      refine lv_ldc2 (own := RX10) (v := 1000000000000000) hx hb hown (hts (.constantLong RX10 60 (1000000000000000)) (by decide +kernel)) dX10_cappedProduct_15 ?_
      refine lv_lload_n hx hb dX10_cappedProduct_18 rfl (lv_at hl 1 rfl) ?_
      refine lv_ldiv hx hb dX10_cappedProduct_19 (lc0 z_3e (by omega)) ?_
      refine lv_topl (fun y_5 ey_5 => ?_)
      refine W.lcmp hx hb dX10_cappedProduct_20 ?_
      refine iz_any (fun z_6 z_6a z_6b z_6e => ?_)
      refine iz_lez (tgt := 30) hx hb dX10_cappedProduct_21 (by decide) (by unfold rg2; omega) (fun br_7 => ?_) (fun br_7 => ?_)
      · refine lv_lload_n hx hb dX10_cappedProduct_30 rfl (lv_at hl 0 rfl) ?_
        refine lv_lload_n hx hb dX10_cappedProduct_31 rfl (lv_at hl 1 rfl) ?_
        refine lv_lmul hx hb dX10_cappedProduct_32 ?_
        refine lv_topl (fun y_8 ey_8 => ?_)
        refine vp_callSl (va_Run.run (va_runSN (As := [.long y_8]) (rest := []) ⟨hx, hb, hml, hown, hts⟩ (c_capped l y_8) ⟨va_cnB 1 hts gX10_cappedProduct_X11_capped_n56 rfl rfl rfl (jN_X10_56 hN) (hts (.initialized RX11) (by decide +kernel)) (by decide +kernel) ⟨Nat.le_of_ble_eq_true rfl, Nat.le_of_ble_eq_true rfl⟩, hts (.static yX11_capped) (by decide +kernel), trivial⟩ ⟨fun a U g mk q => q, fun U hU hW => ⟨rfl, trivial⟩⟩ rfl rfl hl.1 rfl (lv_room (Nat.le_of_ble_eq_true rfl)) dX10_cappedProduct_33 ⟨Nat.le_of_ble_eq_true rfl, Nat.le_of_ble_eq_true rfl⟩)) (fun r_10 hw_9 => ?_)
        exact W.lret (v := r_10) hx hb hr (fun t9 ht hW => ⟨r_10, rfl, trivial, ht⟩) (fun q h => absurd h List.not_mem_nil) dX10_cappedProduct_36
      · refine lv_ldc2 (own := RX10) (v := 1000000000000000) hx hb hown (hts (.constantLong RX10 60 (1000000000000000)) (by decide +kernel)) dX10_cappedProduct_24 ?_
        refine lv_goto (tgt := 36) hx hb dX10_cappedProduct_27 (by decide) ?_
        exact W.lret (v := 1000000000000000) hx hb hr (fun t9 ht hW => ⟨1000000000000000, rfl, trivial, ht⟩) (fun q h => absurd h List.not_mem_nil) dX10_cappedProduct_36
    · refine lv_lconst (v := 0) hx hb dX10_cappedProduct_12 (by decide) ?_
      exact W.lret (v := 0) hx hb hr (fun t9 ht hW => ⟨0, rfl, trivial, ht⟩) (fun q h => absurd h List.not_mem_nil) dX10_cappedProduct_13
set_option maxHeartbeats 4000000 in
set_option maxRecDepth 100000 in
/-- X10_addSeconds -/
theorem c_addSeconds (l : Launch) (dC : Nat → ClassId) (dI : Nat → Nat → Nat) (ca : Nat → ClassId) (A : Nat → Prop) (X : jG) (hU : jU X) (Hp : Heap) (a0 : Nat) (sa : Int) (mo : Int) (fm : Int) (fi : Int) (fw : Int64) (kinds_a0 : Nat) (ways_a0 : Nat) (g_a0 : X.1 a0 = (10, 30, 0, 0, 0)) (g_kinds_a0 : X.1 kinds_a0 = (229, 20, 36, -1, 5)) (g_ways_a0 : X.1 ways_a0 = (237, 28, 40, 238, 240)) (h1 : 0 ≤ sa ∧ 0 ≤ fm ∧ fm < mo ∧ sa + mo ≤ 39) (fii : 0 ≤ fi ∧ fi ≤ 5) : Met l yX10_addSeconds wsX10_addSeconds ({ frames := 3, cells := 0, slots := 0, locals := 59 }) (va_Pc [.ref a0, .int (kz sa), .int (kz mo), .int (kz fm), .int (kz fi), .long fw] (fun U => U.heap = Hp ∧ jK (dC, dI) ca U ∧ jv (dC, dI) ca A X U.heap ∧ va_at (dC, dI) vwCl (a0, .inr (10, [.ref kinds_a0, .ref ways_a0])) U.heap)) (va_Qv (fun (u : Unit) => True) (fun u U => jK (dC, dI) ca U ∧ jv (dC, dI) ca A X U.heap ∧ kfm X [238] Hp U.heap) A) 0 0 A := by
  refine Met.ofW (cc := cX10_addSeconds) (maxL := 14) (ret := none) (by decide) rfl ?_
  intro p e s m args below meth c s₁ B hml hv
  obtain ⟨rfl, hHp, ⟨hK, hN⟩, hI, co_a0⟩ := hv
  have hx := B.exec
  have hb := B.bytes
  have hr := B.returns
  have hts := atoms_spec (ws := wsX10_addSeconds) B.pre
  have hown : s.vm.findClass RX10 = some m.cls := findClass_of_methodNamed B.named
  have hL9 := hts (.fieldLink RX10 9 "JoinBench$Trees" "kinds" "[I") (by decide +kernel)
  have hL15 := hts (.fieldLink RX10 15 "JoinBench$Trees" "ways" "[[J") (by decide +kernel)
  have hinX10 : ∀ w ∈ u_ws RX10 TX10 2, w ∈ wsX10_addSeconds := by decide +kernel
  obtain ⟨H, hH⟩ : ∃ H : Heap, H = s.heap := ⟨_, rfl⟩
  have hS : va_S A s.heap H [] := by rw [hH]; exact va_S.rf
  have hF : kfm X [238] Hp H := by rw [hH, hHp]; exact fm_rf _ _ _
  rw [← hH] at hI co_a0 ⊢
  clear hH
  have hl := lv_entry ([.ref a0, .int (kz sa), .int (kz mo), .int (kz fm), .int (kz fi), .long fw]) (n := 14) (Nat.le_of_ble_eq_true rfl)
  rw [lg_entry_eq]
  generalize (lg_sl ([.ref a0, .int (kz sa), .int (kz mo), .int (kz fm), .int (kz fi), .long fw]) ++ List.replicate (14 - (lg_sl ([.ref a0, .int (kz sa), .int (kz mo), .int (kz fm), .int (kz fi), .long fw])).length) Slot.unset).toArray = ls at hl ⊢
  have hl : lv_has ls 14 [(0, .ref a0), (1, .int (kz sa)), (2, .int (kz mo)), (3, .int (kz fm)), (4, .int (kz fi)), (5, .long fw)] := hl
  refine lv_iload_n hx hb dX10_addSeconds_0 rfl (lv_at hl 1 rfl) ?_
  refine lv_iload_n hx hb dX10_addSeconds_1 rfl (lv_at hl 3 rfl) ?_
  refine iz_iadd hx hb dX10_addSeconds_2 ?_
  refine lv_iconst (v := kz 1) hx hb dX10_addSeconds_3 rfl ?_
  refine iz_iadd hx hb dX10_addSeconds_4 ?_
  refine lv_istore (lv' := [(7, .int (kz ((sa + fm) + 1))), (0, .ref a0), (1, .int (kz sa)), (2, .int (kz mo)), (3, .int (kz fm)), (4, .int (kz fi)), (5, .long fw)]) hx hb dX10_addSeconds_5 hl (by decide) rfl (fun ls hl => ?_)
  refine lv_iload_n hx hb dX10_addSeconds_7 rfl (lv_at hl 3 rfl) ?_
  refine lv_iload_n hx hb dX10_addSeconds_8 rfl (lv_at hl 4 rfl) ?_
  refine iz_isub hx hb dX10_addSeconds_9 ?_
  refine lv_iconst (v := kz 1) hx hb dX10_addSeconds_10 rfl ?_
  refine iz_isub hx hb dX10_addSeconds_11 ?_
  refine lv_istore (lv' := [(8, .int (kz ((mo - fm) - 1))), (7, .int (kz ((sa + fm) + 1))), (0, .ref a0), (1, .int (kz sa)), (2, .int (kz mo)), (3, .int (kz fm)), (4, .int (kz fi)), (5, .long fw)]) hx hb dX10_addSeconds_12 hl (by decide) rfl (fun ls hl => ?_)
  refine lv_iconst (v := kz 0) hx hb dX10_addSeconds_14 rfl ?_
  refine lv_istore (lv' := [(9, .int (kz 0)), (8, .int (kz ((mo - fm) - 1))), (7, .int (kz ((sa + fm) + 1))), (0, .ref a0), (1, .int (kz sa)), (2, .int (kz mo)), (3, .int (kz fm)), (4, .int (kz fi)), (5, .long fw)]) hx hb dX10_addSeconds_15 hl (by decide) rfl (fun ls hl => ?_)
  refine iz_loopA1 (α := Unit) (P := fun N9 _u9 k H locs ls => (0 ≤ k) ∧ (k ≤ 6) ∧ 6 - k ≤ (N9 : Int) ∧ lv_has ls 14 [(9, .int (kz k)), (8, .int (kz ((mo - fm) - 1))), (7, .int (kz ((sa + fm) + 1))), (0, .ref a0), (1, .int (kz sa)), (2, .int (kz mo)), (3, .int (kz fm)), (4, .int (kz fi)), (5, .long fw)] ∧ jv (dC, dI) ca A X H ∧ va_S A s.heap H locs ∧ kfm X [238] Hp H ∧ va_at (dC, dI) vwCl (a0, .inr (10, [.ref kinds_a0, .ref ways_a0])) H) 100000 () (x0 := 0) ?_ ⟨by omega, by omega, by omega, lv_sub hl [0, 1, 2, 3, 4, 5, 6, 7, 8] rfl, hI, hS, hF, co_a0⟩
  intro n_1 _u9 k H locs ls ⟨n_1f0, n_1f1, n_1f2, hl, hI, hS, hF, co_a0⟩ ihn_1
  refine lv_iload hx hb dX10_addSeconds_17 (lv_at hl 0 rfl) ?_
  refine lv_bipush (v := kz 6) hx hb dX10_addSeconds_19 (by decide) ?_
  refine iz_ge (tgt := 114) hx hb dX10_addSeconds_21 (by decide) (by unfold rg2; omega) (fun br_2 => ?_) (fun br_2 => ?_)
  · exact W.vret hx hb hr (fun t9 ht hW => ⟨⟨(), rfl, trivial, jK_warm hW ⟨hK, hN⟩, by rw [ht]; exact ⟨hI, hF⟩⟩, hS.F ht⟩) hS.2.2 dX10_addSeconds_114
  · refine lv_aload_n hx hb dX10_addSeconds_24 rfl (lv_at hl 3 rfl) ?_
    refine iz_get (D := (dC, dI)) (ci := 10) (v := .ref kinds_a0) (C := RX10) (T := TX10) (N := 2) hx hb hts hinX10 hown hK co_a0 rfl 0 (by decide) hL9 (fun _ h9 => h9) rfl dX10_addSeconds_25 ?_
    refine lv_iload hx hb dX10_addSeconds_28 (lv_at hl 7 rfl) ?_
    refine lv_bipush (v := kz 6) hx hb dX10_addSeconds_30 (by decide) ?_
    refine iz_imul hx hb dX10_addSeconds_32 ?_
    refine lv_iload hx hb dX10_addSeconds_33 (lv_at hl 0 rfl) ?_
    refine iz_iadd hx hb dX10_addSeconds_35 ?_
    obtain ⟨f_3, c_f_3, k_f_3⟩ := iv_o20 (jv_iv hI) g_kinds_a0
    refine iz_iald hx hb hK 0 c_f_3 rfl (by omega) (by decide) dX10_addSeconds_36 ?_
    obtain ⟨v_4a, v_4b, -⟩ := k_f_3 ((fi * 6) + k) (by omega)
    obtain ⟨v_4, ev_4⟩ : ∃ z9 : Int, ge1 f_3 ((fi * 6) + k) = z9 := ⟨_, rfl⟩
    rw [ev_4] at v_4a v_4b ⊢
    refine lv_istore (lv' := [(10, .int (kz v_4)), (9, .int (kz k)), (8, .int (kz ((mo - fm) - 1))), (7, .int (kz ((sa + fm) + 1))), (0, .ref a0), (1, .int (kz sa)), (2, .int (kz mo)), (3, .int (kz fm)), (4, .int (kz fi)), (5, .long fw)]) hx hb dX10_addSeconds_37 hl (by decide) rfl (fun ls hl => ?_)
    refine lv_aload_n hx hb dX10_addSeconds_39 rfl (lv_at hl 4 rfl) ?_
    refine iz_get (D := (dC, dI)) (ci := 10) (v := .ref ways_a0) (C := RX10) (T := TX10) (N := 2) hx hb hts hinX10 hown hK co_a0 rfl 1 (by decide) hL15 (fun _ h9 => h9) rfl dX10_addSeconds_40 ?_
    refine lv_iload hx hb dX10_addSeconds_43 (lv_at hl 3 rfl) ?_
    obtain ⟨f_5, c_f_5, k_f_5⟩ := jv_q28 hI g_ways_a0
    refine jz_aald hx hb hK 8 c_f_5 rfl rfl (by omega) (by decide) dX10_addSeconds_45 ?_
    obtain ⟨b_6, eb_6, g_b_6⟩ := k_f_5 (Int.toNat ((sa + fm) + 1)) (by omega)
    rw [eb_6]
    have g_b_6 : X.1 b_6 = (238, 23, 240, 0, 0) := g_b_6
    refine W.eq (g2 := F0 m 46 ls [.ref b_6]) rfl ?_
    refine lv_iload hx hb dX10_addSeconds_46 (lv_at hl 2 rfl) ?_
    refine lv_bipush (v := kz 6) hx hb dX10_addSeconds_48 (by decide) ?_
    refine iz_imul hx hb dX10_addSeconds_50 ?_
    refine lv_iload hx hb dX10_addSeconds_51 (lv_at hl 1 rfl) ?_
    refine iz_iadd hx hb dX10_addSeconds_53 ?_
    obtain ⟨f_7, c_f_7⟩ := iv_o23 (jv_iv hI) g_b_6
    refine iz_lald hx hb hK 3 c_f_7 rfl (by omega) (by decide) dX10_addSeconds_54 ?_
    refine lv_topl (fun y_8 ey_8 => ?_)
    refine lv_lstore (lv' := [(11, .long y_8), (10, .int (kz v_4)), (9, .int (kz k)), (8, .int (kz ((mo - fm) - 1))), (7, .int (kz ((sa + fm) + 1))), (0, .ref a0), (1, .int (kz sa)), (2, .int (kz mo)), (3, .int (kz fm)), (4, .int (kz fi)), (5, .long fw)]) hx hb dX10_addSeconds_55 hl (by decide) rfl (fun ls hl => ?_)
    refine lv_iload hx hb dX10_addSeconds_57 (lv_at hl 1 rfl) ?_
    refine lv_iconst (v := kz (-1)) hx hb dX10_addSeconds_59 rfl ?_
    refine iz_eq (tgt := 108) hx hb dX10_addSeconds_60 (by decide) (by unfold rg2; omega) (fun br_9 => ?_) (fun br_9 => ?_)
    · refine lv_iinc (v := kz (k + 1)) (lv' := [(9, .int (kz (k + 1))), (11, .long y_8), (10, .int (kz v_4)), (8, .int (kz ((mo - fm) - 1))), (7, .int (kz ((sa + fm) + 1))), (0, .ref a0), (1, .int (kz sa)), (2, .int (kz mo)), (3, .int (kz fm)), (4, .int (kz fi)), (5, .long fw)]) hx hb dX10_addSeconds_108 hl (k := 2) rfl (kz_add k 1) (by decide) rfl (fun ls hl => ?_)
      refine lv_goto (tgt := 17) hx hb dX10_addSeconds_111 (by decide) ?_
      exact ihn_1 (n_1 - 1) (by omega) () (k + 1) _ _ _ ⟨by omega, by omega, by omega, lv_sub hl [0, 3, 4, 5, 6, 7, 8, 9, 10] rfl, hI, hS, hF, co_a0⟩
    · refine lv_lload hx hb dX10_addSeconds_63 (lv_at hl 0 rfl) ?_
      refine lv_lconst (v := 0) hx hb dX10_addSeconds_65 (by decide) ?_
      refine W.lcmp hx hb dX10_addSeconds_66 ?_
      refine iz_any (fun z_10 z_10a z_10b z_10e => ?_)
      refine iz_lez (tgt := 108) hx hb dX10_addSeconds_67 (by decide) (by unfold rg2; omega) (fun br_11 => ?_) (fun br_11 => ?_)
      · refine lv_iinc (v := kz (k + 1)) (lv' := [(9, .int (kz (k + 1))), (11, .long y_8), (10, .int (kz v_4)), (8, .int (kz ((mo - fm) - 1))), (7, .int (kz ((sa + fm) + 1))), (0, .ref a0), (1, .int (kz sa)), (2, .int (kz mo)), (3, .int (kz fm)), (4, .int (kz fi)), (5, .long fw)]) hx hb dX10_addSeconds_108 hl (k := 2) rfl (kz_add k 1) (by decide) rfl (fun ls hl => ?_)
        refine lv_goto (tgt := 17) hx hb dX10_addSeconds_111 (by decide) ?_
        exact ihn_1 (n_1 - 1) (by omega) () (k + 1) _ _ _ ⟨by omega, by omega, by omega, lv_sub hl [0, 3, 4, 5, 6, 7, 8, 9, 10] rfl, hI, hS, hF, co_a0⟩
      · refine lv_iload_n hx hb dX10_addSeconds_70 rfl (lv_at hl 7 rfl) ?_
        refine lv_bipush (v := kz 6) hx hb dX10_addSeconds_71 (by decide) ?_
        refine iz_imul hx hb dX10_addSeconds_73 ?_
        refine lv_iload hx hb dX10_addSeconds_74 (lv_at hl 1 rfl) ?_
        refine iz_iadd hx hb dX10_addSeconds_76 ?_
        refine lv_istore (lv' := [(13, .int (kz ((mo * 6) + v_4))), (11, .long y_8), (10, .int (kz v_4)), (9, .int (kz k)), (8, .int (kz ((mo - fm) - 1))), (7, .int (kz ((sa + fm) + 1))), (0, .ref a0), (1, .int (kz sa)), (2, .int (kz mo)), (3, .int (kz fm)), (4, .int (kz fi)), (5, .long fw)]) hx hb dX10_addSeconds_77 hl (by decide) rfl (fun ls hl => ?_)
        refine lv_aload_n hx hb dX10_addSeconds_79 rfl (lv_at hl 6 rfl) ?_
        refine iz_get (D := (dC, dI)) (ci := 10) (v := .ref ways_a0) (C := RX10) (T := TX10) (N := 2) hx hb hts hinX10 hown hK co_a0 rfl 1 (by decide) hL15 (fun _ h9 => h9) rfl dX10_addSeconds_80 ?_
        refine lv_iload_n hx hb dX10_addSeconds_83 rfl (lv_at hl 7 rfl) ?_
        refine jz_aald hx hb hK 8 c_f_5 rfl rfl (by omega) (by decide) dX10_addSeconds_84 ?_
        obtain ⟨b_12, eb_12, g_b_12⟩ := k_f_5 (Int.toNat sa) (by omega)
        rw [eb_12]
        have g_b_12 : X.1 b_12 = (238, 23, 240, 0, 0) := g_b_12
        refine W.eq (g2 := F0 m 85 ls [.ref b_12]) rfl ?_
        refine lv_iload hx hb dX10_addSeconds_85 (lv_at hl 0 rfl) ?_
        refine lv_aload_n hx hb dX10_addSeconds_87 rfl (lv_at hl 6 rfl) ?_
        refine iz_get (D := (dC, dI)) (ci := 10) (v := .ref ways_a0) (C := RX10) (T := TX10) (N := 2) hx hb hts hinX10 hown hK co_a0 rfl 1 (by decide) hL15 (fun _ h9 => h9) rfl dX10_addSeconds_88 ?_
        refine lv_iload_n hx hb dX10_addSeconds_91 rfl (lv_at hl 7 rfl) ?_
        refine jz_aald hx hb hK 8 c_f_5 rfl rfl (by omega) (by decide) dX10_addSeconds_92 ?_
        rw [eb_12]
        refine W.eq (g2 := F0 m 93 ls [.ref b_12, .int (kz ((mo * 6) + v_4)), .ref b_12]) rfl ?_
        refine lv_iload hx hb dX10_addSeconds_93 (lv_at hl 0 rfl) ?_
        obtain ⟨f_14, c_f_14⟩ := iv_o23 (jv_iv hI) g_b_12
        refine iz_lald hx hb hK 3 c_f_14 rfl (by omega) (by decide) dX10_addSeconds_95 ?_
        refine lv_topl (fun y_15 ey_15 => ?_)
        refine lv_lload hx hb dX10_addSeconds_96 (lv_at hl 11 rfl) ?_
        refine lv_lload hx hb dX10_addSeconds_98 (lv_at hl 1 rfl) ?_
        refine vp_callSl (va_Run.run (va_runS (As := [.long fw, .long y_8]) (rest := [.long y_15, .int (kz ((mo * 6) + v_4)), .ref b_12]) ⟨hx, hb, hml, hown, hts⟩ (c_cappedProduct l dC dI ca A X hU fw y_8) (va_cwS 2 hts gX10_addSeconds_X10_cappedProduct rfl rfl rfl (by decide +kernel) ⟨Nat.le_of_ble_eq_true rfl, Nat.le_of_ble_eq_true rfl⟩) ⟨fun a U g mk q => by obtain ⟨q0, ⟨qK, qN⟩, qI⟩ := q; exact ⟨q0, ⟨va_K.moved (u := U) (U := U.calling g mk a) (Vm.Alike.refl U.vm) qK, jN_same (U := U.calling g mk a) rfl qN⟩, qI⟩, fun U hU hW => ⟨rfl, jK_warm hW ⟨hK, hN⟩, by rw [hU]; exact hI⟩⟩ rfl rfl hl.1 rfl (lv_room (Nat.le_of_ble_eq_true rfl)) dX10_addSeconds_100 ⟨Nat.le_of_ble_eq_true rfl, Nat.le_of_ble_eq_true rfl⟩)) (fun r_17 hw_16 => ?_)
        refine lv_ladd hx hb dX10_addSeconds_103 ?_
        refine lv_topl (fun y_18 ey_18 => ?_)
        refine vp_callSl (va_Run.run (va_runSN (As := [.long y_18]) (rest := [.int (kz ((mo * 6) + v_4)), .ref b_12]) ⟨hx, hb, hml, hown, hts⟩ (c_capped l y_18) ⟨va_cnB 1 hts gX10_addSeconds_X11_capped_n56 rfl rfl rfl (jN_X10_56 hN) (hts (.initialized RX11) (by decide +kernel)) (by decide +kernel) ⟨Nat.le_of_ble_eq_true rfl, Nat.le_of_ble_eq_true rfl⟩, hts (.static yX11_capped) (by decide +kernel), trivial⟩ ⟨fun a U g mk q => q, fun U hU hW => ⟨rfl, trivial⟩⟩ rfl rfl hl.1 rfl (lv_room (Nat.le_of_ble_eq_true rfl)) dX10_addSeconds_104 ⟨Nat.le_of_ble_eq_true rfl, Nat.le_of_ble_eq_true rfl⟩)) (fun r_20 hw_19 => ?_)
        refine iz_last hx hb hK 3 c_f_14 hS (jv_A hI g_b_12 (show (23 : Nat) ≠ 0 by decide)) rfl (by omega) (by decide) dX10_addSeconds_107 (fun H locs c9 oq hS => ?_)
        have hI := jv_s23 hI g_b_12 c9 oq
        have hF := fm_put hF g_b_12 (show (238 : Nat) ∈ [238] by decide) oq
        have c_f_3 := c_f_3.kept (oq _ (kn_ne g_kinds_a0 g_b_12 (show (229 : Nat) ≠ 238 by decide)))
        have c_f_5 := c_f_5.kept (oq _ (kn_ne g_ways_a0 g_b_12 (show (237 : Nat) ≠ 238 by decide)))
        have co_a0 := co_a0.kept (oq _ (kn_ne g_a0 g_b_12 (show (10 : Nat) ≠ 238 by decide)))
        clear oq c9
        refine lv_iinc (v := kz (k + 1)) (lv' := [(9, .int (kz (k + 1))), (13, .int (kz ((mo * 6) + v_4))), (11, .long y_8), (10, .int (kz v_4)), (8, .int (kz ((mo - fm) - 1))), (7, .int (kz ((sa + fm) + 1))), (0, .ref a0), (1, .int (kz sa)), (2, .int (kz mo)), (3, .int (kz fm)), (4, .int (kz fi)), (5, .long fw)]) hx hb dX10_addSeconds_108 hl (k := 3) rfl (kz_add k 1) (by decide) rfl (fun ls hl => ?_)
        refine lv_goto (tgt := 17) hx hb dX10_addSeconds_111 (by decide) ?_
        exact ihn_1 (n_1 - 1) (by omega) () (k + 1) _ _ _ ⟨by omega, by omega, by omega, lv_sub hl [0, 4, 5, 6, 7, 8, 9, 10, 11] rfl, hI, hS, hF, co_a0⟩
set_option maxHeartbeats 4000000 in
set_option maxRecDepth 100000 in
/-- X10_addSplits -/
theorem c_addSplits (l : Launch) (dC : Nat → ClassId) (dI : Nat → Nat → Nat) (ca : Nat → ClassId) (A : Nat → Prop) (X : jG) (hU : jU X) (Hp : Heap) (a0 : Nat) (sa : Int) (mo : Int) (kinds_a0 : Nat) (ways_a0 : Nat) (g_a0 : X.1 a0 = (10, 30, 0, 0, 0)) (g_kinds_a0 : X.1 kinds_a0 = (229, 20, 36, -1, 5)) (g_ways_a0 : X.1 ways_a0 = (237, 28, 40, 238, 240)) (h1 : 0 ≤ sa ∧ 1 ≤ mo ∧ sa + mo ≤ 39) : Met l yX10_addSplits wsX10_addSplits ({ frames := 4, cells := 0, slots := 0, locals := 92 }) (va_Pc [.ref a0, .int (kz sa), .int (kz mo)] (fun U => U.heap = Hp ∧ jK (dC, dI) ca U ∧ jv (dC, dI) ca A X U.heap ∧ va_at (dC, dI) vwCl (a0, .inr (10, [.ref kinds_a0, .ref ways_a0])) U.heap)) (va_Qv (fun (u : Unit) => True) (fun u U => jK (dC, dI) ca U ∧ jv (dC, dI) ca A X U.heap ∧ kfm X [238] Hp U.heap) A) 0 0 A := by
  refine Met.ofW (cc := cX10_addSplits) (maxL := 7) (ret := none) (by decide) rfl ?_
  intro p e s m args below meth c s₁ B hml hv
  obtain ⟨rfl, hHp, ⟨hK, hN⟩, hI, co_a0⟩ := hv
  have hx := B.exec
  have hb := B.bytes
  have hr := B.returns
  have hts := atoms_spec (ws := wsX10_addSplits) B.pre
  have hown : s.vm.findClass RX10 = some m.cls := findClass_of_methodNamed B.named
  have hL15 := hts (.fieldLink RX10 15 "JoinBench$Trees" "ways" "[[J") (by decide +kernel)
  have hinX10 : ∀ w ∈ u_ws RX10 TX10 2, w ∈ wsX10_addSplits := by decide +kernel
  obtain ⟨H, hH⟩ : ∃ H : Heap, H = s.heap := ⟨_, rfl⟩
  have hS : va_S A s.heap H [] := by rw [hH]; exact va_S.rf
  have hF : kfm X [238] Hp H := by rw [hH, hHp]; exact fm_rf _ _ _
  rw [← hH] at hI co_a0 ⊢
  clear hH
  have hl := lv_entry ([.ref a0, .int (kz sa), .int (kz mo)]) (n := 7) (Nat.le_of_ble_eq_true rfl)
  rw [lg_entry_eq]
  generalize (lg_sl ([.ref a0, .int (kz sa), .int (kz mo)]) ++ List.replicate (7 - (lg_sl ([.ref a0, .int (kz sa), .int (kz mo)])).length) Slot.unset).toArray = ls at hl ⊢
  have hl : lv_has ls 7 [(0, .ref a0), (1, .int (kz sa)), (2, .int (kz mo))] := hl
  refine lv_iconst (v := kz 0) hx hb dX10_addSplits_0 rfl ?_
  refine lv_istore_n (lv' := [(3, .int (kz 0)), (0, .ref a0), (1, .int (kz sa)), (2, .int (kz mo))]) hx hb dX10_addSplits_1 rfl hl (by decide) rfl (fun ls hl => ?_)
  refine iz_loopA1 (α := Unit) (P := fun N9 _u9 fm H locs ls => (0 ≤ fm) ∧ (fm ≤ mo) ∧ mo - fm ≤ (N9 : Int) ∧ lv_has ls 7 [(3, .int (kz fm)), (0, .ref a0), (1, .int (kz sa)), (2, .int (kz mo))] ∧ jv (dC, dI) ca A X H ∧ va_S A s.heap H locs ∧ kfm X [238] Hp H ∧ va_at (dC, dI) vwCl (a0, .inr (10, [.ref kinds_a0, .ref ways_a0])) H) 100000 () (x0 := 0) ?_ ⟨by omega, by omega, by omega, lv_sub hl [0, 1, 2, 3] rfl, hI, hS, hF, co_a0⟩
  intro n_1 _u9 fm H locs ls ⟨n_1f0, n_1f1, n_1f2, hl, hI, hS, hF, co_a0⟩ ihn_1
  refine lv_iload_n hx hb dX10_addSplits_2 rfl (lv_at hl 0 rfl) ?_
  refine lv_iload_n hx hb dX10_addSplits_3 rfl (lv_at hl 3 rfl) ?_
  refine iz_ge (tgt := 63) hx hb dX10_addSplits_4 (by decide) (by unfold rg2; omega) (fun br_2 => ?_) (fun br_2 => ?_)
  · exact W.vret hx hb hr (fun t9 ht hW => ⟨⟨(), rfl, trivial, jK_warm hW ⟨hK, hN⟩, by rw [ht]; exact ⟨hI, hF⟩⟩, hS.F ht⟩) hS.2.2 dX10_addSplits_63
  · refine lv_iconst (v := kz 0) hx hb dX10_addSplits_7 rfl ?_
    refine lv_istore (lv' := [(4, .int (kz 0)), (3, .int (kz fm)), (0, .ref a0), (1, .int (kz sa)), (2, .int (kz mo))]) hx hb dX10_addSplits_8 hl (by decide) rfl (fun ls hl => ?_)
    refine iz_loopA1 (α := Unit) (P := fun N9 _u9 fi H locs ls => (0 ≤ fi) ∧ (fi ≤ 6) ∧ 6 - fi ≤ (N9 : Int) ∧ lv_has ls 7 [(4, .int (kz fi)), (3, .int (kz fm)), (0, .ref a0), (1, .int (kz sa)), (2, .int (kz mo))] ∧ jv (dC, dI) ca A X H ∧ va_S A s.heap H locs ∧ kfm X [238] Hp H ∧ va_at (dC, dI) vwCl (a0, .inr (10, [.ref kinds_a0, .ref ways_a0])) H) 100000 () (x0 := 0) ?_ ⟨by omega, by omega, by omega, lv_sub hl [0, 1, 2, 3, 4] rfl, hI, hS, hF, co_a0⟩
    intro n_3 _u9 fi H locs ls ⟨n_3f0, n_3f1, n_3f2, hl, hI, hS, hF, co_a0⟩ ihn_3
    refine lv_iload hx hb dX10_addSplits_10 (lv_at hl 0 rfl) ?_
    refine lv_bipush (v := kz 6) hx hb dX10_addSplits_12 (by decide) ?_
    refine iz_ge (tgt := 57) hx hb dX10_addSplits_14 (by decide) (by unfold rg2; omega) (fun br_4 => ?_) (fun br_4 => ?_)
    · refine lv_iinc (v := kz (fm + 1)) (lv' := [(3, .int (kz (fm + 1))), (4, .int (kz fi)), (0, .ref a0), (1, .int (kz sa)), (2, .int (kz mo))]) hx hb dX10_addSplits_57 hl (k := 1) rfl (kz_add fm 1) (by decide) rfl (fun ls hl => ?_)
      refine lv_goto (tgt := 2) hx hb dX10_addSplits_60 (by decide) ?_
      exact ihn_1 (n_1 - 1) (by omega) () (fm + 1) _ _ _ ⟨by omega, by omega, by omega, lv_sub hl [0, 2, 3, 4] rfl, hI, hS, hF, co_a0⟩
    · refine lv_aload_n hx hb dX10_addSplits_17 rfl (lv_at hl 2 rfl) ?_
      refine iz_get (D := (dC, dI)) (ci := 10) (v := .ref ways_a0) (C := RX10) (T := TX10) (N := 2) hx hb hts hinX10 hown hK co_a0 rfl 1 (by decide) hL15 (fun _ h9 => h9) rfl dX10_addSplits_18 ?_
      refine lv_iload_n hx hb dX10_addSplits_21 rfl (lv_at hl 3 rfl) ?_
      obtain ⟨f_5, c_f_5, k_f_5⟩ := jv_q28 hI g_ways_a0
      refine jz_aald hx hb hK 8 c_f_5 rfl rfl (by omega) (by decide) dX10_addSplits_22 ?_
      obtain ⟨b_6, eb_6, g_b_6⟩ := k_f_5 (Int.toNat sa) (by omega)
      rw [eb_6]
      have g_b_6 : X.1 b_6 = (238, 23, 240, 0, 0) := g_b_6
      refine W.eq (g2 := F0 m 23 ls [.ref b_6]) rfl ?_
      refine lv_iload_n hx hb dX10_addSplits_23 rfl (lv_at hl 1 rfl) ?_
      refine lv_bipush (v := kz 6) hx hb dX10_addSplits_24 (by decide) ?_
      refine iz_imul hx hb dX10_addSplits_26 ?_
      refine lv_iload hx hb dX10_addSplits_27 (lv_at hl 0 rfl) ?_
      refine iz_iadd hx hb dX10_addSplits_29 ?_
      obtain ⟨f_7, c_f_7⟩ := iv_o23 (jv_iv hI) g_b_6
      refine iz_lald hx hb hK 3 c_f_7 rfl (by omega) (by decide) dX10_addSplits_30 ?_
      refine lv_topl (fun y_8 ey_8 => ?_)
      refine lv_lstore (lv' := [(5, .long y_8), (4, .int (kz fi)), (3, .int (kz fm)), (0, .ref a0), (1, .int (kz sa)), (2, .int (kz mo))]) hx hb dX10_addSplits_31 hl (by decide) rfl (fun ls hl => ?_)
      refine lv_lload hx hb dX10_addSplits_33 (lv_at hl 0 rfl) ?_
      refine lv_lconst (v := 0) hx hb dX10_addSplits_35 (by decide) ?_
      refine W.lcmp hx hb dX10_addSplits_36 ?_
      refine iz_any (fun z_9 z_9a z_9b z_9e => ?_)
      refine iz_lez (tgt := 51) hx hb dX10_addSplits_37 (by decide) (by unfold rg2; omega) (fun br_10 => ?_) (fun br_10 => ?_)
      · refine lv_iinc (v := kz (fi + 1)) (lv' := [(4, .int (kz (fi + 1))), (5, .long y_8), (3, .int (kz fm)), (0, .ref a0), (1, .int (kz sa)), (2, .int (kz mo))]) hx hb dX10_addSplits_51 hl (k := 1) rfl (kz_add fi 1) (by decide) rfl (fun ls hl => ?_)
        refine lv_goto (tgt := 10) hx hb dX10_addSplits_54 (by decide) ?_
        exact ihn_3 (n_3 - 1) (by omega) () (fi + 1) _ _ _ ⟨by omega, by omega, by omega, lv_sub hl [0, 2, 3, 4, 5] rfl, hI, hS, hF, co_a0⟩
      · refine lv_aload_n hx hb dX10_addSplits_40 rfl (lv_at hl 3 rfl) ?_
        refine lv_iload_n hx hb dX10_addSplits_41 rfl (lv_at hl 4 rfl) ?_
        refine lv_iload_n hx hb dX10_addSplits_42 rfl (lv_at hl 5 rfl) ?_
        refine lv_iload_n hx hb dX10_addSplits_43 rfl (lv_at hl 2 rfl) ?_
        refine lv_iload hx hb dX10_addSplits_44 (lv_at hl 1 rfl) ?_
        refine lv_lload hx hb dX10_addSplits_46 (lv_at hl 0 rfl) ?_
        refine va_callv (va_runV (As := [.int (kz sa), .int (kz mo), .int (kz fm), .int (kz fi), .long y_8]) (rest := []) ⟨hx, hb, hml, hown, hts⟩ (c_addSeconds l dC dI ca A X hU H a0 sa mo fm fi y_8 kinds_a0 ways_a0 g_a0 g_kinds_a0 g_ways_a0 (by omega) (by omega)) (cwV 5 hts gX10_addSplits_X10_addSeconds rfl rfl rfl (by decide +kernel) ⟨Nat.le_of_ble_eq_true rfl, Nat.le_of_ble_eq_true rfl⟩) ⟨fun a U g mk q => by obtain ⟨q0, qH, ⟨qK, qN⟩, qI⟩ := q; exact ⟨q0, qH, ⟨va_K.moved (u := U) (U := U.calling g mk a) (Vm.Alike.refl U.vm) qK, jN_same (U := U.calling g mk a) rfl qN⟩, qI⟩, va_recv hK (at_P co_a0) (ci := 10) (q0 := 0) rfl rfl, fun U hU hW => ⟨rfl, hU, jK_warm hW ⟨hK, hN⟩, by rw [hU]; exact ⟨hI, co_a0⟩⟩⟩ rfl rfl hl.1 rfl (lv_room (Nat.le_of_ble_eq_true rfl)) dX10_addSplits_48 ⟨Nat.le_of_ble_eq_true rfl, Nat.le_of_ble_eq_true rfl⟩) hS (fun q _ h => h) (fun q h => h) (fun u t9 H locs ht hvm hw_11 hB hz1 hk1 hS => ?_)
        obtain ⟨-, hI, hf9⟩ := hB
        rw [ht] at hI hf9
        clear ht hvm hz1
        have co_a0 := fm_at hf9 g_a0 (show (10 : Nat) ∉ ([238] : List Nat) by decide) co_a0
        have c_f_5 := fm_at hf9 g_ways_a0 (show (237 : Nat) ∉ ([238] : List Nat) by decide) c_f_5
        have hF := fm_tr hF hf9 (by decide)
        clear hk1 hf9
        refine lv_iinc (v := kz (fi + 1)) (lv' := [(4, .int (kz (fi + 1))), (5, .long y_8), (3, .int (kz fm)), (0, .ref a0), (1, .int (kz sa)), (2, .int (kz mo))]) hx hb dX10_addSplits_51 hl (k := 1) rfl (kz_add fi 1) (by decide) rfl (fun ls hl => ?_)
        refine lv_goto (tgt := 10) hx hb dX10_addSplits_54 (by decide) ?_
        exact ihn_3 (n_3 - 1) (by omega) () (fi + 1) _ _ _ ⟨by omega, by omega, by omega, lv_sub hl [0, 2, 3, 4, 5] rfl, hI, hS, hF, co_a0⟩
set_option maxHeartbeats 4000000 in
set_option maxRecDepth 100000 in
/-- X11_toldPath -/
theorem j_toldPath (l : Launch) (dC : Nat → ClassId) (dI : Nat → Nat → Nat) (ca : Nat → ClassId) (A : Nat → Prop) (X : jG) (hU : jU X) (o : Nat) (j_tape : Nat) (j_tongue : Nat) (j_row : Nat) (j_trees : Nat) (j_choices : Nat) (pv : Option Nat) (st : Int) (k : Int) (g_o : X.1 o = (999, 0, 0, 0, 0)) (hAo : A o) (g_j_tape : X.1 j_tape = (8, 30, 0, 0, 0)) (g_j_tongue : X.1 j_tongue = (9, 30, 0, 0, 0)) (g_j_row : X.1 j_row = (6, 30, 0, 0, 0)) (g_j_trees : X.1 j_trees = (10, 30, 0, 0, 0)) (g_j_choices : X.1 j_choices = (1, 30, 0, 0, 0)) (hpv : ∀ b : Nat, pv = some b → X.1 b = (4, 30, 0, 0, 0)) (hst : 0 ≤ st ∧ st ≤ 20) (kr : -2147483648 ≤ k ∧ k ≤ 2147483647) : Met l yX11_toldPath wsX11_toldPath ({ frames := 0, cells := 0, slots := 0, locals := 0 }) (va_Pc [.ref o, .int (kz k)] (fun U => jK (dC, dI) ca U ∧ jv (dC, dI) ca A X U.heap ∧ va_at (dC, dI) vwCl (o, .inr (11, [.ref j_tape, .ref j_tongue, .ref j_row, .ref j_trees, .ref j_choices, va_rf pv, .int (kz st)])) U.heap)) (va_Sq (fun r => ∀ b9 : Nat, r = some b9 → ∃ i9 : Nat, X.1 b9 = (5, 30, i9, 0, 0))) 0 0 (fun _ => False) := by
  refine Met.ofW (cc := cX11_toldPath) (maxL := 2) (ret := (some (.object "JoinBench$Path"))) (by decide) rfl ?_
  intro p e s m args below meth c s₁ B hml hv
  obtain ⟨rfl, ⟨hK, hN⟩, hI, hO⟩ := hv
  have hx := B.exec
  have hb := B.bytes
  have hr := B.returns
  have hts := atoms_spec (ws := wsX11_toldPath) B.pre
  have hown : s.vm.findClass RX11 = some m.cls := findClass_of_methodNamed B.named
  have hL44 := hts (.fieldLink RX11 44 "JoinBench" "parter" "LJoinBench$Parter;") (by decide +kernel)
  have hL202 := hts (.fieldLink RX11 202 "JoinBench$Parter" "toldCount" "I") (by decide +kernel)
  have hL283 := hts (.fieldLink RX11 283 "JoinBench$Parter" "told" "[LJoinBench$Path;") (by decide +kernel)
  have hinX11 : ∀ w ∈ u_ws RX11 TX11 7, w ∈ wsX11_toldPath := by decide +kernel
  have hinX4 : ∀ w ∈ u_ws RX4 TX4 10, w ∈ wsX11_toldPath := by decide +kernel
  have hl := lv_entry ([.ref o, .int (kz k)]) (n := 2) (Nat.le_of_ble_eq_true rfl)
  rw [lg_entry_eq]
  generalize (lg_sl ([.ref o, .int (kz k)]) ++ List.replicate (2 - (lg_sl ([.ref o, .int (kz k)])).length) Slot.unset).toArray = ls at hl ⊢
  have hl : lv_has ls 2 [(0, .ref o), (1, .int (kz k))] := hl
  refine lv_aload_n hx hb dX11_toldPath_0 rfl (lv_at hl 0 rfl) ?_
  refine iz_get (D := (dC, dI)) (ci := 11) (v := va_rf pv) (C := RX11) (T := TX11) (N := 7) hx hb hts hinX11 hown hK hO rfl 5 (by decide) hL44 (fun _ h9 => h9) rfl dX11_toldPath_1 ?_
  rcases pv with _ | b_1
  · refine W.eq (g2 := F0 m 4 ls [.null]) rfl ?_
    refine lv_ifnullN (tgt := 34) hx hb dX11_toldPath_4 (by decide) ?_
    refine lv_null hx hb dX11_toldPath_34 ?_
    exact W.aret (v := .null) hx hb hr (Or.inl ⟨_, rfl⟩) (Or.inl rfl) (fun t9 ht hW => ⟨none, rfl, (fun b9 q9 => by cases q9), ht⟩) (fun q h => absurd h List.not_mem_nil) dX11_toldPath_35
  · have g_b_1 := hpv b_1 rfl
    refine W.eq (g2 := F0 m 4 ls [.ref b_1]) rfl ?_
    refine lv_ifnull hx hb dX11_toldPath_4 ?_
    refine lv_iload_n hx hb dX11_toldPath_7 rfl (lv_at hl 1 rfl) ?_
    refine iz_ltz (tgt := 34) hx hb dX11_toldPath_8 (by decide) (by unfold rg2; omega) (fun br_2 => ?_) (fun br_2 => ?_)
    · refine lv_null hx hb dX11_toldPath_34 ?_
      exact W.aret (v := .null) hx hb hr (Or.inl ⟨_, rfl⟩) (Or.inl rfl) (fun t9 ht hW => ⟨none, rfl, (fun b9 q9 => by cases q9), ht⟩) (fun q h => absurd h List.not_mem_nil) dX11_toldPath_35
    · refine lv_iload_n hx hb dX11_toldPath_11 rfl (lv_at hl 1 rfl) ?_
      refine lv_aload_n hx hb dX11_toldPath_12 rfl (lv_at hl 0 rfl) ?_
      refine iz_get (D := (dC, dI)) (ci := 11) (v := .ref b_1) (C := RX11) (T := TX11) (N := 7) hx hb hts hinX11 hown hK hO rfl 5 (by decide) hL44 (fun _ h9 => h9) rfl dX11_toldPath_13 ?_
      obtain ⟨fs9, co_3, jo9⟩ := jv_o4 hI g_b_1
      obtain ⟨pp_3, countedUncut_3, counted_3, left_3, told_3, toldCount_3, grown_3, keys_3, keyCount_3, tongue_3, lattice_3, rfl, ⟨left_3a, left_3b⟩, g_told_3, ⟨toldCount_3a, toldCount_3b⟩, g_grown_3, g_keys_3, ⟨keyCount_3a, keyCount_3b⟩, g_tongue_3, g_lattice_3, x_3_0, x_3_1⟩ := jo9
      have e9 : j_tongue = tongue_3 := jU_eq hU g_j_tongue g_tongue_3 (show (30 : Nat) ≠ 0 by decide) (show uq 9 = true by decide)
      subst e9
      refine iz_get (D := (dC, dI)) (ci := 4) (v := .int (kz toldCount_3)) (C := RX4) (T := TX4) (N := 10) hx hb hts hinX4 hown hK co_3 rfl 4 (by decide) hL202 (fun _ h9 => h9) rfl dX11_toldPath_16 ?_
      refine iz_ge (tgt := 34) hx hb dX11_toldPath_19 (by decide) (by unfold rg2; omega) (fun br_4 => ?_) (fun br_4 => ?_)
      · refine lv_null hx hb dX11_toldPath_34 ?_
        exact W.aret (v := .null) hx hb hr (Or.inl ⟨_, rfl⟩) (Or.inl rfl) (fun t9 ht hW => ⟨none, rfl, (fun b9 q9 => by cases q9), ht⟩) (fun q h => absurd h List.not_mem_nil) dX11_toldPath_35
      · refine lv_aload_n hx hb dX11_toldPath_22 rfl (lv_at hl 0 rfl) ?_
        refine iz_get (D := (dC, dI)) (ci := 11) (v := .ref b_1) (C := RX11) (T := TX11) (N := 7) hx hb hts hinX11 hown hK hO rfl 5 (by decide) hL44 (fun _ h9 => h9) rfl dX11_toldPath_23 ?_
        refine iz_get (D := (dC, dI)) (ci := 4) (v := .ref told_3) (C := RX4) (T := TX4) (N := 10) hx hb hts hinX4 hown hK co_3 rfl 3 (by decide) hL283 (fun _ h9 => h9) rfl dX11_toldPath_26 ?_
        refine lv_iload_n hx hb dX11_toldPath_29 rfl (lv_at hl 1 rfl) ?_
        obtain ⟨f_5, c_f_5, k_f_5⟩ := jv_q26 hI g_told_3
        refine jz_aald hx hb hK 6 c_f_5 rfl rfl (by omega) (by decide) dX11_toldPath_30 ?_
        obtain ⟨b_6, eb_6, g_b_6⟩ := k_f_5 (Int.toNat k) (by omega)
        rw [eb_6]
        refine W.eq (g2 := F0 m 31 ls [.ref b_6]) rfl ?_
        refine lv_goto (tgt := 35) hx hb dX11_toldPath_31 (by decide) ?_
        exact W.aret (v := .ref b_6) hx hb hr (Or.inl ⟨_, rfl⟩) (Or.inr ⟨_, rfl⟩) (fun t9 ht hW => ⟨some b_6, rfl, (fun b9 q9 => by cases q9; exact ⟨_, g_b_6⟩), ht⟩) (fun q h => absurd h List.not_mem_nil) dX11_toldPath_35
set_option maxHeartbeats 4000000 in
set_option maxRecDepth 100000 in
/-- X11_parted -/
theorem j_parted (l : Launch) (dC : Nat → ClassId) (dI : Nat → Nat → Nat) (ca : Nat → ClassId) (A : Nat → Prop) (X : jG) (hU : jU X) (o : Nat) (j_tape : Nat) (j_tongue : Nat) (j_row : Nat) (j_trees : Nat) (j_choices : Nat) (pv : Option Nat) (st : Int) (what : Int) (g_o : X.1 o = (999, 0, 0, 0, 0)) (hAo : A o) (g_j_tape : X.1 j_tape = (8, 30, 0, 0, 0)) (g_j_tongue : X.1 j_tongue = (9, 30, 0, 0, 0)) (g_j_row : X.1 j_row = (6, 30, 0, 0, 0)) (g_j_trees : X.1 j_trees = (10, 30, 0, 0, 0)) (g_j_choices : X.1 j_choices = (1, 30, 0, 0, 0)) (hpv : ∀ b : Nat, pv = some b → X.1 b = (4, 30, 0, 0, 0)) (hst : 0 ≤ st ∧ st ≤ 20) (whatr : -2147483648 ≤ what ∧ what ≤ 2147483647) : Met l yX11_parted wsX11_parted ({ frames := 0, cells := 0, slots := 0, locals := 0 }) (va_Pc [.ref o, .int (kz what)] (fun U => jK (dC, dI) ca U ∧ jv (dC, dI) ca A X U.heap ∧ va_at (dC, dI) vwCl (o, .inr (11, [.ref j_tape, .ref j_tongue, .ref j_row, .ref j_trees, .ref j_choices, va_rf pv, .int (kz st)])) U.heap)) (vp_Sl (fun r => True)) 0 0 (fun _ => False) := by
  refine Met.ofW (cc := cX11_parted) (maxL := 2) (ret := (some .long)) (by decide) rfl ?_
  intro p e s m args below meth c s₁ B hml hv
  obtain ⟨rfl, ⟨hK, hN⟩, hI, hO⟩ := hv
  have hx := B.exec
  have hb := B.bytes
  have hr := B.returns
  have hts := atoms_spec (ws := wsX11_parted) B.pre
  have hown : s.vm.findClass RX11 = some m.cls := findClass_of_methodNamed B.named
  have hL44 := hts (.fieldLink RX11 44 "JoinBench" "parter" "LJoinBench$Parter;") (by decide +kernel)
  have hL195 := hts (.fieldLink RX11 195 "JoinBench$Parter" "countedUncut" "J") (by decide +kernel)
  have hL191 := hts (.fieldLink RX11 191 "JoinBench$Parter" "counted" "J") (by decide +kernel)
  have hL198 := hts (.fieldLink RX11 198 "JoinBench$Parter" "left" "Z") (by decide +kernel)
  have hL202 := hts (.fieldLink RX11 202 "JoinBench$Parter" "toldCount" "I") (by decide +kernel)
  have hinX11 : ∀ w ∈ u_ws RX11 TX11 7, w ∈ wsX11_parted := by decide +kernel
  have hinX4 : ∀ w ∈ u_ws RX4 TX4 10, w ∈ wsX11_parted := by decide +kernel
  have hl := lv_entry ([.ref o, .int (kz what)]) (n := 2) (Nat.le_of_ble_eq_true rfl)
  rw [lg_entry_eq]
  generalize (lg_sl ([.ref o, .int (kz what)]) ++ List.replicate (2 - (lg_sl ([.ref o, .int (kz what)])).length) Slot.unset).toArray = ls at hl ⊢
  have hl : lv_has ls 2 [(0, .ref o), (1, .int (kz what))] := hl
  refine lv_aload_n hx hb dX11_parted_0 rfl (lv_at hl 0 rfl) ?_
  refine iz_get (D := (dC, dI)) (ci := 11) (v := va_rf pv) (C := RX11) (T := TX11) (N := 7) hx hb hts hinX11 hown hK hO rfl 5 (by decide) hL44 (fun _ h9 => h9) rfl dX11_parted_1 ?_
  rcases pv with _ | b_1
  · refine W.eq (g2 := F0 m 4 ls [.null]) rfl ?_
    refine lv_ifnonnullN hx hb dX11_parted_4 ?_
    refine lv_ldc2 (own := RX11) (v := (-1)) hx hb hown (hts (.constantLong RX11 174 (-1)) (by decide +kernel)) dX11_parted_7 ?_
    exact W.lret (v := (-1)) hx hb hr (fun t9 ht hW => ⟨(-1), rfl, trivial, ht⟩) (fun q h => absurd h List.not_mem_nil) dX11_parted_10
  · have g_b_1 := hpv b_1 rfl
    refine W.eq (g2 := F0 m 4 ls [.ref b_1]) rfl ?_
    refine lv_ifnonnull (tgt := 11) hx hb dX11_parted_4 (by decide) ?_
    refine lv_iload_n hx hb dX11_parted_11 rfl (lv_at hl 1 rfl) ?_
    rcases ks_4 what (by omega) with c_2 | rfl | rfl | rfl | rfl
    · refine lv_tableOut (tgt := 85) hx hb dX11_parted_12 (by rw [kz_toInt (by omega) (by omega)]; omega) (by decide) ?_
      refine lv_ldc2 (own := RX11) (v := (-1)) hx hb hown (hts (.constantLong RX11 174 (-1)) (by decide +kernel)) dX11_parted_85 ?_
      exact W.lret (v := (-1)) hx hb hr (fun t9 ht hW => ⟨(-1), rfl, trivial, ht⟩) (fun q h => absurd h List.not_mem_nil) dX11_parted_88
    · refine lv_tableIn (off := 32) (tgt := 44) hx hb dX11_parted_12 (by decide) (by decide) rfl (by decide) ?_
      refine lv_aload_n hx hb dX11_parted_44 rfl (lv_at hl 0 rfl) ?_
      refine iz_get (D := (dC, dI)) (ci := 11) (v := .ref b_1) (C := RX11) (T := TX11) (N := 7) hx hb hts hinX11 hown hK hO rfl 5 (by decide) hL44 (fun _ h9 => h9) rfl dX11_parted_45 ?_
      obtain ⟨fs9, co_3, jo9⟩ := jv_o4 hI g_b_1
      obtain ⟨pp_3, countedUncut_3, counted_3, left_3, told_3, toldCount_3, grown_3, keys_3, keyCount_3, tongue_3, lattice_3, rfl, ⟨left_3a, left_3b⟩, g_told_3, ⟨toldCount_3a, toldCount_3b⟩, g_grown_3, g_keys_3, ⟨keyCount_3a, keyCount_3b⟩, g_tongue_3, g_lattice_3, x_3_0, x_3_1⟩ := jo9
      have e9 : j_tongue = tongue_3 := jU_eq hU g_j_tongue g_tongue_3 (show (30 : Nat) ≠ 0 by decide) (show uq 9 = true by decide)
      subst e9
      refine iz_get (D := (dC, dI)) (ci := 4) (v := .long countedUncut_3) (C := RX4) (T := TX4) (N := 10) hx hb hts hinX4 hown hK co_3 rfl 0 (by decide) hL195 (fun _ h9 => h9) rfl dX11_parted_48 ?_
      exact W.lret (v := countedUncut_3) hx hb hr (fun t9 ht hW => ⟨countedUncut_3, rfl, trivial, ht⟩) (fun q h => absurd h List.not_mem_nil) dX11_parted_51
    · refine lv_tableIn (off := 40) (tgt := 52) hx hb dX11_parted_12 (by decide) (by decide) rfl (by decide) ?_
      refine lv_aload_n hx hb dX11_parted_52 rfl (lv_at hl 0 rfl) ?_
      refine iz_get (D := (dC, dI)) (ci := 11) (v := .ref b_1) (C := RX11) (T := TX11) (N := 7) hx hb hts hinX11 hown hK hO rfl 5 (by decide) hL44 (fun _ h9 => h9) rfl dX11_parted_53 ?_
      obtain ⟨fs9, co_4, jo9⟩ := jv_o4 hI g_b_1
      obtain ⟨pp_4, countedUncut_4, counted_4, left_4, told_4, toldCount_4, grown_4, keys_4, keyCount_4, tongue_4, lattice_4, rfl, ⟨left_4a, left_4b⟩, g_told_4, ⟨toldCount_4a, toldCount_4b⟩, g_grown_4, g_keys_4, ⟨keyCount_4a, keyCount_4b⟩, g_tongue_4, g_lattice_4, x_4_0, x_4_1⟩ := jo9
      have e9 : j_tongue = tongue_4 := jU_eq hU g_j_tongue g_tongue_4 (show (30 : Nat) ≠ 0 by decide) (show uq 9 = true by decide)
      subst e9
      refine iz_get (D := (dC, dI)) (ci := 4) (v := .long counted_4) (C := RX4) (T := TX4) (N := 10) hx hb hts hinX4 hown hK co_4 rfl 1 (by decide) hL191 (fun _ h9 => h9) rfl dX11_parted_56 ?_
      exact W.lret (v := counted_4) hx hb hr (fun t9 ht hW => ⟨counted_4, rfl, trivial, ht⟩) (fun q h => absurd h List.not_mem_nil) dX11_parted_59
    · refine lv_tableIn (off := 48) (tgt := 60) hx hb dX11_parted_12 (by decide) (by decide) rfl (by decide) ?_
      refine lv_aload_n hx hb dX11_parted_60 rfl (lv_at hl 0 rfl) ?_
      refine iz_get (D := (dC, dI)) (ci := 11) (v := .ref b_1) (C := RX11) (T := TX11) (N := 7) hx hb hts hinX11 hown hK hO rfl 5 (by decide) hL44 (fun _ h9 => h9) rfl dX11_parted_61 ?_
      obtain ⟨fs9, co_5, jo9⟩ := jv_o4 hI g_b_1
      obtain ⟨pp_5, countedUncut_5, counted_5, left_5, told_5, toldCount_5, grown_5, keys_5, keyCount_5, tongue_5, lattice_5, rfl, ⟨left_5a, left_5b⟩, g_told_5, ⟨toldCount_5a, toldCount_5b⟩, g_grown_5, g_keys_5, ⟨keyCount_5a, keyCount_5b⟩, g_tongue_5, g_lattice_5, x_5_0, x_5_1⟩ := jo9
      have e9 : j_tongue = tongue_5 := jU_eq hU g_j_tongue g_tongue_5 (show (30 : Nat) ≠ 0 by decide) (show uq 9 = true by decide)
      subst e9
      refine iz_get (D := (dC, dI)) (ci := 4) (v := .int (kz left_5)) (C := RX4) (T := TX4) (N := 10) hx hb hts hinX4 hown hK co_5 rfl 2 (by decide) hL198 (fun _ h9 => h9) rfl dX11_parted_64 ?_
      refine iz_eqz (tgt := 74) hx hb dX11_parted_67 (by decide) (by unfold rg2; omega) (fun br_6 => ?_) (fun br_6 => ?_)
      · refine lv_lconst (v := 0) hx hb dX11_parted_74 (by decide) ?_
        exact W.lret (v := 0) hx hb hr (fun t9 ht hW => ⟨0, rfl, trivial, ht⟩) (fun q h => absurd h List.not_mem_nil) dX11_parted_75
      · refine lv_lconst (v := 1) hx hb dX11_parted_70 (by decide) ?_
        refine lv_goto (tgt := 75) hx hb dX11_parted_71 (by decide) ?_
        exact W.lret (v := 1) hx hb hr (fun t9 ht hW => ⟨1, rfl, trivial, ht⟩) (fun q h => absurd h List.not_mem_nil) dX11_parted_75
    · refine lv_tableIn (off := 64) (tgt := 76) hx hb dX11_parted_12 (by decide) (by decide) rfl (by decide) ?_
      refine lv_aload_n hx hb dX11_parted_76 rfl (lv_at hl 0 rfl) ?_
      refine iz_get (D := (dC, dI)) (ci := 11) (v := .ref b_1) (C := RX11) (T := TX11) (N := 7) hx hb hts hinX11 hown hK hO rfl 5 (by decide) hL44 (fun _ h9 => h9) rfl dX11_parted_77 ?_
      obtain ⟨fs9, co_7, jo9⟩ := jv_o4 hI g_b_1
      obtain ⟨pp_7, countedUncut_7, counted_7, left_7, told_7, toldCount_7, grown_7, keys_7, keyCount_7, tongue_7, lattice_7, rfl, ⟨left_7a, left_7b⟩, g_told_7, ⟨toldCount_7a, toldCount_7b⟩, g_grown_7, g_keys_7, ⟨keyCount_7a, keyCount_7b⟩, g_tongue_7, g_lattice_7, x_7_0, x_7_1⟩ := jo9
      have e9 : j_tongue = tongue_7 := jU_eq hU g_j_tongue g_tongue_7 (show (30 : Nat) ≠ 0 by decide) (show uq 9 = true by decide)
      subst e9
      refine iz_get (D := (dC, dI)) (ci := 4) (v := .int (kz toldCount_7)) (C := RX4) (T := TX4) (N := 10) hx hb hts hinX4 hown hK co_7 rfl 4 (by decide) hL202 (fun _ h9 => h9) rfl dX11_parted_80 ?_
      refine lv_i2l (v := (kz toldCount_7).toInt64) hx hb dX11_parted_83 rfl ?_
      exact W.lret (v := ((kz toldCount_7).toInt64)) hx hb hr (fun t9 ht hW => ⟨((kz toldCount_7).toInt64), rfl, trivial, ht⟩) (fun q h => absurd h List.not_mem_nil) dX11_parted_84
set_option maxHeartbeats 4000000 in
set_option maxRecDepth 100000 in
/-- X11_parting -/
theorem j_parting (l : Launch) (dC : Nat → ClassId) (dI : Nat → Nat → Nat) (ca : Nat → ClassId) (A : Nat → Prop) (X : jG) (hU : jU X) (o : Nat) (j_tape : Nat) (j_tongue : Nat) (j_row : Nat) (j_trees : Nat) (j_choices : Nat) (pv : Option Nat) (st : Int) (k : Int) (what : Int) (g_o : X.1 o = (999, 0, 0, 0, 0)) (hAo : A o) (g_j_tape : X.1 j_tape = (8, 30, 0, 0, 0)) (g_j_tongue : X.1 j_tongue = (9, 30, 0, 0, 0)) (g_j_row : X.1 j_row = (6, 30, 0, 0, 0)) (g_j_trees : X.1 j_trees = (10, 30, 0, 0, 0)) (g_j_choices : X.1 j_choices = (1, 30, 0, 0, 0)) (hpv : ∀ b : Nat, pv = some b → X.1 b = (4, 30, 0, 0, 0)) (hst : 0 ≤ st ∧ st ≤ 20) (kr : -2147483648 ≤ k ∧ k ≤ 2147483647) (whatr : -2147483648 ≤ what ∧ what ≤ 2147483647) : Met l yX11_parting wsX11_parting ({ frames := 1, cells := 0, slots := 0, locals := 21 }) (va_Pc [.ref o, .int (kz k), .int (kz what)] (fun U => jK (dC, dI) ca U ∧ jv (dC, dI) ca A X U.heap ∧ va_at (dC, dI) vwCl (o, .inr (11, [.ref j_tape, .ref j_tongue, .ref j_row, .ref j_trees, .ref j_choices, va_rf pv, .int (kz st)])) U.heap)) (vp_Si (fun r => True)) 0 0 (fun _ => False) := by
  refine Met.ofW (cc := cX11_parting) (maxL := 5) (ret := (some .int)) (by decide) rfl ?_
  intro p e s m args below meth c s₁ B hml hv
  obtain ⟨rfl, ⟨hK, hN⟩, hI, hO⟩ := hv
  have hx := B.exec
  have hb := B.bytes
  have hr := B.returns
  have hts := atoms_spec (ws := wsX11_parting) B.pre
  have hown : s.vm.findClass RX11 = some m.cls := findClass_of_methodNamed B.named
  have hL209 := hts (.fieldLink RX11 209 "JoinBench$Path" "cost" "I") (by decide +kernel)
  have hL212 := hts (.fieldLink RX11 212 "JoinBench$Path" "chain" "LJoinBench$Chain;") (by decide +kernel)
  have hL139 := hts (.fieldLink RX11 139 "JoinBench$Chain" "size" "I") (by decide +kernel)
  have hinX0 : ∀ w ∈ u_ws RX0 TX0 3, w ∈ wsX11_parting := by decide +kernel
  have hinX5 : ∀ w ∈ u_ws RX5 TX5 6, w ∈ wsX11_parting := by decide +kernel
  have hl := lv_entry ([.ref o, .int (kz k), .int (kz what)]) (n := 5) (Nat.le_of_ble_eq_true rfl)
  rw [lg_entry_eq]
  generalize (lg_sl ([.ref o, .int (kz k), .int (kz what)]) ++ List.replicate (5 - (lg_sl ([.ref o, .int (kz k), .int (kz what)])).length) Slot.unset).toArray = ls at hl ⊢
  have hl : lv_has ls 5 [(0, .ref o), (1, .int (kz k)), (2, .int (kz what))] := hl
  refine lv_aload_n hx hb dX11_parting_0 rfl (lv_at hl 0 rfl) ?_
  refine lv_iload_n hx hb dX11_parting_1 rfl (lv_at hl 1 rfl) ?_
  refine va_csq (va_Run.run (va_runV (As := [.int (kz k)]) (rest := []) ⟨hx, hb, hml, hown, hts⟩ (j_toldPath l dC dI ca A X hU o j_tape j_tongue j_row j_trees j_choices pv st k g_o hAo g_j_tape g_j_tongue g_j_row g_j_trees g_j_choices hpv (by omega) (by omega)) (cwV 1 hts gX11_parting_X11_toldPath rfl rfl rfl (by decide +kernel) ⟨Nat.le_of_ble_eq_true rfl, Nat.le_of_ble_eq_true rfl⟩) ⟨fun a U g mk q => by obtain ⟨q0, ⟨qK, qN⟩, qI⟩ := q; exact ⟨q0, ⟨va_K.moved (u := U) (U := U.calling g mk a) (Vm.Alike.refl U.vm) qK, jN_same (U := U.calling g mk a) rfl qN⟩, qI⟩, va_recv hK (at_P hO) (ci := 11) (q0 := 0) rfl rfl, fun U hU hW => ⟨rfl, jK_warm hW ⟨hK, hN⟩, by rw [hU]; exact ⟨hI, hO⟩⟩⟩ rfl rfl hl.1 rfl (lv_room (Nat.le_of_ble_eq_true rfl)) dX11_parting_2 ⟨Nat.le_of_ble_eq_true rfl, Nat.le_of_ble_eq_true rfl⟩)) (fun r_2 hw_1 => ?_)
  rcases r_2 with _ | b_3
  · refine W.eq (g2 := F0 m 5 ls [.null]) rfl ?_
    refine lv_astore_nN (lv' := [(3, .null), (0, .ref o), (1, .int (kz k)), (2, .int (kz what))]) hx hb dX11_parting_5 rfl hl (by decide) rfl (fun ls hl => ?_)
    refine lv_aload_n hx hb dX11_parting_6 rfl (lv_at hl 1 rfl) ?_
    refine lv_iconst (v := kz 0) hx hb dX11_parting_7 rfl ?_
    refine va_csq (va_Run.run (va_runV (As := [.int (kz 0)]) (rest := []) ⟨hx, hb, hml, hown, hts⟩ (j_toldPath l dC dI ca A X hU o j_tape j_tongue j_row j_trees j_choices pv st 0 g_o hAo g_j_tape g_j_tongue g_j_row g_j_trees g_j_choices hpv (by omega) (by omega)) (cwV 1 hts gX11_parting_X11_toldPath rfl rfl rfl (by decide +kernel) ⟨Nat.le_of_ble_eq_true rfl, Nat.le_of_ble_eq_true rfl⟩) ⟨fun a U g mk q => by obtain ⟨q0, ⟨qK, qN⟩, qI⟩ := q; exact ⟨q0, ⟨va_K.moved (u := U) (U := U.calling g mk a) (Vm.Alike.refl U.vm) qK, jN_same (U := U.calling g mk a) rfl qN⟩, qI⟩, va_recv hK (at_P hO) (ci := 11) (q0 := 0) rfl rfl, fun U hU hW => ⟨rfl, jK_warm hW ⟨hK, hN⟩, by rw [hU]; exact ⟨hI, hO⟩⟩⟩ rfl rfl hl.1 rfl (lv_room (Nat.le_of_ble_eq_true rfl)) dX11_parting_8 ⟨Nat.le_of_ble_eq_true rfl, Nat.le_of_ble_eq_true rfl⟩)) (fun r_5 hw_4 => ?_)
    rcases r_5 with _ | b_6
    · refine W.eq (g2 := F0 m 11 ls [.null]) rfl ?_
      refine lv_astoreN (lv' := [(4, .null), (3, .null), (0, .ref o), (1, .int (kz k)), (2, .int (kz what))]) hx hb dX11_parting_11 hl (by decide) rfl (fun ls hl => ?_)
      refine lv_aload_nN hx hb dX11_parting_13 rfl (lv_at hl 1 rfl) ?_
      refine lv_ifnullN (tgt := 22) hx hb dX11_parting_14 (by decide) ?_
      refine lv_iconst (v := kz (-1)) hx hb dX11_parting_22 rfl ?_
      exact W.iret (v := kz (-1)) hx hb hr (fun t9 ht hW => ⟨kz (-1), rfl, trivial, ht⟩) (fun q h => absurd h List.not_mem_nil) dX11_parting_23
    · obtain ⟨i_b_6, g_b_6⟩ := hw_4 b_6 rfl
      refine W.eq (g2 := F0 m 11 ls [.ref b_6]) rfl ?_
      refine lv_astore (lv' := [(4, .ref b_6), (3, .null), (0, .ref o), (1, .int (kz k)), (2, .int (kz what))]) hx hb dX11_parting_11 hl (by decide) rfl (fun ls hl => ?_)
      refine lv_aload_nN hx hb dX11_parting_13 rfl (lv_at hl 1 rfl) ?_
      refine lv_ifnullN (tgt := 22) hx hb dX11_parting_14 (by decide) ?_
      refine lv_iconst (v := kz (-1)) hx hb dX11_parting_22 rfl ?_
      exact W.iret (v := kz (-1)) hx hb hr (fun t9 ht hW => ⟨kz (-1), rfl, trivial, ht⟩) (fun q h => absurd h List.not_mem_nil) dX11_parting_23
  · obtain ⟨i_b_3, g_b_3⟩ := hw_1 b_3 rfl
    refine W.eq (g2 := F0 m 5 ls [.ref b_3]) rfl ?_
    refine lv_astore_n (lv' := [(3, .ref b_3), (0, .ref o), (1, .int (kz k)), (2, .int (kz what))]) hx hb dX11_parting_5 rfl hl (by decide) rfl (fun ls hl => ?_)
    refine lv_aload_n hx hb dX11_parting_6 rfl (lv_at hl 1 rfl) ?_
    refine lv_iconst (v := kz 0) hx hb dX11_parting_7 rfl ?_
    refine va_csq (va_Run.run (va_runV (As := [.int (kz 0)]) (rest := []) ⟨hx, hb, hml, hown, hts⟩ (j_toldPath l dC dI ca A X hU o j_tape j_tongue j_row j_trees j_choices pv st 0 g_o hAo g_j_tape g_j_tongue g_j_row g_j_trees g_j_choices hpv (by omega) (by omega)) (cwV 1 hts gX11_parting_X11_toldPath rfl rfl rfl (by decide +kernel) ⟨Nat.le_of_ble_eq_true rfl, Nat.le_of_ble_eq_true rfl⟩) ⟨fun a U g mk q => by obtain ⟨q0, ⟨qK, qN⟩, qI⟩ := q; exact ⟨q0, ⟨va_K.moved (u := U) (U := U.calling g mk a) (Vm.Alike.refl U.vm) qK, jN_same (U := U.calling g mk a) rfl qN⟩, qI⟩, va_recv hK (at_P hO) (ci := 11) (q0 := 0) rfl rfl, fun U hU hW => ⟨rfl, jK_warm hW ⟨hK, hN⟩, by rw [hU]; exact ⟨hI, hO⟩⟩⟩ rfl rfl hl.1 rfl (lv_room (Nat.le_of_ble_eq_true rfl)) dX11_parting_8 ⟨Nat.le_of_ble_eq_true rfl, Nat.le_of_ble_eq_true rfl⟩)) (fun r_8 hw_7 => ?_)
    rcases r_8 with _ | b_9
    · refine W.eq (g2 := F0 m 11 ls [.null]) rfl ?_
      refine lv_astoreN (lv' := [(4, .null), (3, .ref b_3), (0, .ref o), (1, .int (kz k)), (2, .int (kz what))]) hx hb dX11_parting_11 hl (by decide) rfl (fun ls hl => ?_)
      refine lv_aload_n hx hb dX11_parting_13 rfl (lv_at hl 1 rfl) ?_
      refine lv_ifnull hx hb dX11_parting_14 ?_
      refine lv_aloadN hx hb dX11_parting_17 (lv_at hl 0 rfl) ?_
      refine lv_ifnonnullN hx hb dX11_parting_19 ?_
      refine lv_iconst (v := kz (-1)) hx hb dX11_parting_22 rfl ?_
      exact W.iret (v := kz (-1)) hx hb hr (fun t9 ht hW => ⟨kz (-1), rfl, trivial, ht⟩) (fun q h => absurd h List.not_mem_nil) dX11_parting_23
    · obtain ⟨i_b_9, g_b_9⟩ := hw_7 b_9 rfl
      refine W.eq (g2 := F0 m 11 ls [.ref b_9]) rfl ?_
      refine lv_astore (lv' := [(4, .ref b_9), (3, .ref b_3), (0, .ref o), (1, .int (kz k)), (2, .int (kz what))]) hx hb dX11_parting_11 hl (by decide) rfl (fun ls hl => ?_)
      refine lv_aload_n hx hb dX11_parting_13 rfl (lv_at hl 1 rfl) ?_
      refine lv_ifnull hx hb dX11_parting_14 ?_
      refine lv_aload hx hb dX11_parting_17 (lv_at hl 0 rfl) ?_
      refine lv_ifnonnull (tgt := 24) hx hb dX11_parting_19 (by decide) ?_
      refine lv_iload_n hx hb dX11_parting_24 rfl (lv_at hl 4 rfl) ?_
      rcases ks_3 what (by omega) with c_10 | rfl | rfl | rfl
      · refine lv_tableOut (tgt := 76) hx hb dX11_parting_25 (by rw [kz_toInt (by omega) (by omega)]; omega) (by decide) ?_
        refine lv_iconst (v := kz (-1)) hx hb dX11_parting_76 rfl ?_
        exact W.iret (v := kz (-1)) hx hb hr (fun t9 ht hW => ⟨kz (-1), rfl, trivial, ht⟩) (fun q h => absurd h List.not_mem_nil) dX11_parting_77
      · refine lv_tableIn (off := 27) (tgt := 52) hx hb dX11_parting_25 (by decide) (by decide) rfl (by decide) ?_
        refine lv_aload_n hx hb dX11_parting_52 rfl (lv_at hl 1 rfl) ?_
        obtain ⟨fs9, co_11, jo9⟩ := jv_o5 hI g_b_3
        obtain ⟨chain_11, cost_11, spent_11, place_11, ended_11, rank_11, rfl, g_chain_11, ⟨cost_11a, cost_11b⟩, ⟨spent_11a, spent_11b⟩, ⟨place_11a, place_11b⟩, ⟨ended_11a, ended_11b⟩, ⟨rank_11a, rank_11b⟩⟩ := jo9
        refine iz_get (D := (dC, dI)) (ci := 5) (v := .int (kz cost_11)) (C := RX5) (T := TX5) (N := 6) hx hb hts hinX5 hown hK co_11 rfl 1 (by decide) hL209 (fun _ h9 => h9) rfl dX11_parting_53 ?_
        exact W.iret (v := kz cost_11) hx hb hr (fun t9 ht hW => ⟨kz cost_11, rfl, trivial, ht⟩) (fun q h => absurd h List.not_mem_nil) dX11_parting_56
      · refine lv_tableIn (off := 32) (tgt := 57) hx hb dX11_parting_25 (by decide) (by decide) rfl (by decide) ?_
        refine lv_aload_n hx hb dX11_parting_57 rfl (lv_at hl 1 rfl) ?_
        obtain ⟨fs9, co_12, jo9⟩ := jv_o5 hI g_b_3
        obtain ⟨chain_12, cost_12, spent_12, place_12, ended_12, rank_12, rfl, g_chain_12, ⟨cost_12a, cost_12b⟩, ⟨spent_12a, spent_12b⟩, ⟨place_12a, place_12b⟩, ⟨ended_12a, ended_12b⟩, ⟨rank_12a, rank_12b⟩⟩ := jo9
        refine iz_get (D := (dC, dI)) (ci := 5) (v := .ref chain_12) (C := RX5) (T := TX5) (N := 6) hx hb hts hinX5 hown hK co_12 rfl 0 (by decide) hL212 (fun _ h9 => h9) rfl dX11_parting_58 ?_
        obtain ⟨fs9, co_13, jo9⟩ := jv_o0 hI g_chain_12
        obtain ⟨forms_13, rules_13, size_13, rfl, g_forms_13, g_rules_13, ⟨size_13a, size_13b⟩, x_13_0⟩ := jo9
        refine iz_get (D := (dC, dI)) (ci := 0) (v := .int (kz size_13)) (C := RX0) (T := TX0) (N := 3) hx hb hts hinX0 hown hK co_13 rfl 2 (by decide) hL139 (fun _ h9 => h9) rfl dX11_parting_61 ?_
        exact W.iret (v := kz size_13) hx hb hr (fun t9 ht hW => ⟨kz size_13, rfl, trivial, ht⟩) (fun q h => absurd h List.not_mem_nil) dX11_parting_64
      · refine lv_tableIn (off := 40) (tgt := 65) hx hb dX11_parting_25 (by decide) (by decide) rfl (by decide) ?_
        refine lv_aload_n hx hb dX11_parting_65 rfl (lv_at hl 1 rfl) ?_
        obtain ⟨fs9, co_14, jo9⟩ := jv_o5 hI g_b_3
        obtain ⟨chain_14, cost_14, spent_14, place_14, ended_14, rank_14, rfl, g_chain_14, ⟨cost_14a, cost_14b⟩, ⟨spent_14a, spent_14b⟩, ⟨place_14a, place_14b⟩, ⟨ended_14a, ended_14b⟩, ⟨rank_14a, rank_14b⟩⟩ := jo9
        refine iz_get (D := (dC, dI)) (ci := 5) (v := .int (kz cost_14)) (C := RX5) (T := TX5) (N := 6) hx hb hts hinX5 hown hK co_14 rfl 1 (by decide) hL209 (fun _ h9 => h9) rfl dX11_parting_66 ?_
        refine lv_aload hx hb dX11_parting_69 (lv_at hl 0 rfl) ?_
        obtain ⟨fs9, co_15, jo9⟩ := jv_o5 hI g_b_9
        obtain ⟨chain_15, cost_15, spent_15, place_15, ended_15, rank_15, rfl, g_chain_15, ⟨cost_15a, cost_15b⟩, ⟨spent_15a, spent_15b⟩, ⟨place_15a, place_15b⟩, ⟨ended_15a, ended_15b⟩, ⟨rank_15a, rank_15b⟩⟩ := jo9
        refine iz_get (D := (dC, dI)) (ci := 5) (v := .int (kz cost_15)) (C := RX5) (T := TX5) (N := 6) hx hb hts hinX5 hown hK co_15 rfl 1 (by decide) hL209 (fun _ h9 => h9) rfl dX11_parting_71 ?_
        refine iz_isub hx hb dX11_parting_74 ?_
        exact W.iret (v := kz (cost_14 - cost_15)) hx hb hr (fun t9 ht hW => ⟨kz (cost_14 - cost_15), rfl, trivial, ht⟩) (fun q h => absurd h List.not_mem_nil) dX11_parting_75
set_option maxHeartbeats 4000000 in
set_option maxRecDepth 100000 in
/-- X11_formOf -/
theorem j_formOf (l : Launch) (dC : Nat → ClassId) (dI : Nat → Nat → Nat) (ca : Nat → ClassId) (A : Nat → Prop) (X : jG) (hU : jU X) (o : Nat) (j_tape : Nat) (j_tongue : Nat) (j_row : Nat) (j_trees : Nat) (j_choices : Nat) (pv : Option Nat) (st : Int) (k : Int) (i1 : Int) (g_o : X.1 o = (999, 0, 0, 0, 0)) (hAo : A o) (g_j_tape : X.1 j_tape = (8, 30, 0, 0, 0)) (g_j_tongue : X.1 j_tongue = (9, 30, 0, 0, 0)) (g_j_row : X.1 j_row = (6, 30, 0, 0, 0)) (g_j_trees : X.1 j_trees = (10, 30, 0, 0, 0)) (g_j_choices : X.1 j_choices = (1, 30, 0, 0, 0)) (hpv : ∀ b : Nat, pv = some b → X.1 b = (4, 30, 0, 0, 0)) (hst : 0 ≤ st ∧ st ≤ 20) (kr : -2147483648 ≤ k ∧ k ≤ 2147483647) (i1r : -2147483648 ≤ i1 ∧ i1 ≤ 2147483647) : Met l yX11_formOf wsX11_formOf ({ frames := 1, cells := 0, slots := 0, locals := 21 }) (va_Pc [.ref o, .int (kz k), .int (kz i1)] (fun U => jK (dC, dI) ca U ∧ jv (dC, dI) ca A X U.heap ∧ va_at (dC, dI) vwCl (o, .inr (11, [.ref j_tape, .ref j_tongue, .ref j_row, .ref j_trees, .ref j_choices, va_rf pv, .int (kz st)])) U.heap)) (vp_Si (fun r => True)) 0 0 (fun _ => False) := by
  refine Met.ofW (cc := cX11_formOf) (maxL := 5) (ret := (some .int)) (by decide) rfl ?_
  intro p e s m args below meth c s₁ B hml hv
  obtain ⟨rfl, ⟨hK, hN⟩, hI, hO⟩ := hv
  have hx := B.exec
  have hb := B.bytes
  have hr := B.returns
  have hts := atoms_spec (ws := wsX11_formOf) B.pre
  have hown : s.vm.findClass RX11 = some m.cls := findClass_of_methodNamed B.named
  have hL212 := hts (.fieldLink RX11 212 "JoinBench$Path" "chain" "LJoinBench$Chain;") (by decide +kernel)
  have hL214 := hts (.fieldLink RX11 214 "JoinBench$Form" "number" "I") (by decide +kernel)
  have hinX2 : ∀ w ∈ u_ws RX2 TX2 8, w ∈ wsX11_formOf := by decide +kernel
  have hinX5 : ∀ w ∈ u_ws RX5 TX5 6, w ∈ wsX11_formOf := by decide +kernel
  have hl := lv_entry ([.ref o, .int (kz k), .int (kz i1)]) (n := 5) (Nat.le_of_ble_eq_true rfl)
  rw [lg_entry_eq]
  generalize (lg_sl ([.ref o, .int (kz k), .int (kz i1)]) ++ List.replicate (5 - (lg_sl ([.ref o, .int (kz k), .int (kz i1)])).length) Slot.unset).toArray = ls at hl ⊢
  have hl : lv_has ls 5 [(0, .ref o), (1, .int (kz k)), (2, .int (kz i1))] := hl
  refine lv_aload_n hx hb dX11_formOf_0 rfl (lv_at hl 0 rfl) ?_
  refine lv_iload_n hx hb dX11_formOf_1 rfl (lv_at hl 1 rfl) ?_
  refine va_csq (va_Run.run (va_runV (As := [.int (kz k)]) (rest := []) ⟨hx, hb, hml, hown, hts⟩ (j_toldPath l dC dI ca A X hU o j_tape j_tongue j_row j_trees j_choices pv st k g_o hAo g_j_tape g_j_tongue g_j_row g_j_trees g_j_choices hpv (by omega) (by omega)) (cwV 1 hts gX11_formOf_X11_toldPath rfl rfl rfl (by decide +kernel) ⟨Nat.le_of_ble_eq_true rfl, Nat.le_of_ble_eq_true rfl⟩) ⟨fun a U g mk q => by obtain ⟨q0, ⟨qK, qN⟩, qI⟩ := q; exact ⟨q0, ⟨va_K.moved (u := U) (U := U.calling g mk a) (Vm.Alike.refl U.vm) qK, jN_same (U := U.calling g mk a) rfl qN⟩, qI⟩, va_recv hK (at_P hO) (ci := 11) (q0 := 0) rfl rfl, fun U hU hW => ⟨rfl, jK_warm hW ⟨hK, hN⟩, by rw [hU]; exact ⟨hI, hO⟩⟩⟩ rfl rfl hl.1 rfl (lv_room (Nat.le_of_ble_eq_true rfl)) dX11_formOf_2 ⟨Nat.le_of_ble_eq_true rfl, Nat.le_of_ble_eq_true rfl⟩)) (fun r_2 hw_1 => ?_)
  rcases r_2 with _ | b_3
  · refine W.eq (g2 := F0 m 5 ls [.null]) rfl ?_
    refine lv_astore_nN (lv' := [(3, .null), (0, .ref o), (1, .int (kz k)), (2, .int (kz i1))]) hx hb dX11_formOf_5 rfl hl (by decide) rfl (fun ls hl => ?_)
    refine lv_aload_nN hx hb dX11_formOf_6 rfl (lv_at hl 0 rfl) ?_
    refine lv_ifnonnullN hx hb dX11_formOf_7 ?_
    refine lv_null hx hb dX11_formOf_10 ?_
    refine lv_goto (tgt := 22) hx hb dX11_formOf_11 (by decide) ?_
    refine lv_astoreN (lv' := [(4, .null), (3, .null), (0, .ref o), (1, .int (kz k)), (2, .int (kz i1))]) hx hb dX11_formOf_22 hl (by decide) rfl (fun ls hl => ?_)
    refine lv_aloadN hx hb dX11_formOf_24 (lv_at hl 0 rfl) ?_
    refine lv_ifnonnullN hx hb dX11_formOf_26 ?_
    refine lv_iconst (v := kz (-1)) hx hb dX11_formOf_29 rfl ?_
    refine lv_goto (tgt := 38) hx hb dX11_formOf_30 (by decide) ?_
    exact W.iret (v := kz (-1)) hx hb hr (fun t9 ht hW => ⟨kz (-1), rfl, trivial, ht⟩) (fun q h => absurd h List.not_mem_nil) dX11_formOf_38
  · obtain ⟨i_b_3, g_b_3⟩ := hw_1 b_3 rfl
    refine W.eq (g2 := F0 m 5 ls [.ref b_3]) rfl ?_
    refine lv_astore_n (lv' := [(3, .ref b_3), (0, .ref o), (1, .int (kz k)), (2, .int (kz i1))]) hx hb dX11_formOf_5 rfl hl (by decide) rfl (fun ls hl => ?_)
    refine lv_aload_n hx hb dX11_formOf_6 rfl (lv_at hl 0 rfl) ?_
    refine lv_ifnonnull (tgt := 14) hx hb dX11_formOf_7 (by decide) ?_
    refine lv_aload_n hx hb dX11_formOf_14 rfl (lv_at hl 0 rfl) ?_
    obtain ⟨fs9, co_4, jo9⟩ := jv_o5 hI g_b_3
    obtain ⟨chain_4, cost_4, spent_4, place_4, ended_4, rank_4, rfl, g_chain_4, ⟨cost_4a, cost_4b⟩, ⟨spent_4a, spent_4b⟩, ⟨place_4a, place_4b⟩, ⟨ended_4a, ended_4b⟩, ⟨rank_4a, rank_4b⟩⟩ := jo9
    refine iz_get (D := (dC, dI)) (ci := 5) (v := .ref chain_4) (C := RX5) (T := TX5) (N := 6) hx hb hts hinX5 hown hK co_4 rfl 0 (by decide) hL212 (fun _ h9 => h9) rfl dX11_formOf_15 ?_
    refine lv_iload_n hx hb dX11_formOf_18 rfl (lv_at hl 3 rfl) ?_
    obtain ⟨fs9, co_5, jo9⟩ := jv_o0 hI g_chain_4
    obtain ⟨forms_5, rules_5, size_5, rfl, g_forms_5, g_rules_5, ⟨size_5a, size_5b⟩, x_5_0⟩ := jo9
    refine va_csq (va_Run.run (va_runV (As := [.int (kz i1)]) (rest := []) ⟨hx, hb, hml, hown, hts⟩ (c_chFormAt l dC dI ca A X hU chain_4 i1 i_b_3 g_chain_4 (by omega)) (cwV 1 hts gX11_formOf_X0_formAt rfl rfl rfl (by decide +kernel) ⟨Nat.le_of_ble_eq_true rfl, Nat.le_of_ble_eq_true rfl⟩) ⟨fun a U g mk q => by obtain ⟨q0, ⟨qK, qN⟩, qI⟩ := q; exact ⟨q0, ⟨va_K.moved (u := U) (U := U.calling g mk a) (Vm.Alike.refl U.vm) qK, jN_same (U := U.calling g mk a) rfl qN⟩, qI⟩, va_recv hK (at_P co_5) (ci := 0) (q0 := 0) rfl rfl, fun U hU hW => ⟨rfl, jK_warm hW ⟨hK, hN⟩, by rw [hU]; exact hI⟩⟩ rfl rfl hl.1 rfl (lv_room (Nat.le_of_ble_eq_true rfl)) dX11_formOf_19 ⟨Nat.le_of_ble_eq_true rfl, Nat.le_of_ble_eq_true rfl⟩)) (fun r_7 hw_6 => ?_)
    rcases r_7 with _ | b_8
    · refine W.eq (g2 := F0 m 22 ls [.null]) rfl ?_
      refine lv_astoreN (lv' := [(4, .null), (3, .ref b_3), (0, .ref o), (1, .int (kz k)), (2, .int (kz i1))]) hx hb dX11_formOf_22 hl (by decide) rfl (fun ls hl => ?_)
      refine lv_aloadN hx hb dX11_formOf_24 (lv_at hl 0 rfl) ?_
      refine lv_ifnonnullN hx hb dX11_formOf_26 ?_
      refine lv_iconst (v := kz (-1)) hx hb dX11_formOf_29 rfl ?_
      refine lv_goto (tgt := 38) hx hb dX11_formOf_30 (by decide) ?_
      exact W.iret (v := kz (-1)) hx hb hr (fun t9 ht hW => ⟨kz (-1), rfl, trivial, ht⟩) (fun q h => absurd h List.not_mem_nil) dX11_formOf_38
    · have g_b_8 := hw_6 b_8 rfl
      refine W.eq (g2 := F0 m 22 ls [.ref b_8]) rfl ?_
      refine lv_astore (lv' := [(4, .ref b_8), (3, .ref b_3), (0, .ref o), (1, .int (kz k)), (2, .int (kz i1))]) hx hb dX11_formOf_22 hl (by decide) rfl (fun ls hl => ?_)
      refine lv_aload hx hb dX11_formOf_24 (lv_at hl 0 rfl) ?_
      refine lv_ifnonnull (tgt := 33) hx hb dX11_formOf_26 (by decide) ?_
      refine lv_aload hx hb dX11_formOf_33 (lv_at hl 0 rfl) ?_
      obtain ⟨fs9, co_9, jo9⟩ := jv_o2 hI g_b_8
      obtain ⟨ln_9, letters_9, kind_9, stem_9, kept_9, cost_9, number_9, ends_9, begins_9, rfl, g_letters_9, ⟨kind_9a, kind_9b⟩, ⟨stem_9a, stem_9b⟩, ⟨kept_9a, kept_9b⟩, ⟨cost_9a, cost_9b⟩, ⟨number_9a, number_9b⟩, ⟨ends_9a, ends_9b⟩, ⟨begins_9a, begins_9b⟩, x_9_0, x_9_1, x_9_2, x_9_3⟩ := jo9
      refine iz_get (D := (dC, dI)) (ci := 2) (v := .int (kz number_9)) (C := RX2) (T := TX2) (N := 8) hx hb hts hinX2 hown hK co_9 rfl 5 (by decide) hL214 (fun _ h9 => h9) rfl dX11_formOf_35 ?_
      exact W.iret (v := kz number_9) hx hb hr (fun t9 ht hW => ⟨kz number_9, rfl, trivial, ht⟩) (fun q h => absurd h List.not_mem_nil) dX11_formOf_38
set_option maxHeartbeats 4000000 in
set_option maxRecDepth 100000 in
/-- X11_ruleOf -/
theorem j_ruleOf (l : Launch) (dC : Nat → ClassId) (dI : Nat → Nat → Nat) (ca : Nat → ClassId) (A : Nat → Prop) (X : jG) (hU : jU X) (o : Nat) (j_tape : Nat) (j_tongue : Nat) (j_row : Nat) (j_trees : Nat) (j_choices : Nat) (pv : Option Nat) (st : Int) (k : Int) (i1 : Int) (g_o : X.1 o = (999, 0, 0, 0, 0)) (hAo : A o) (g_j_tape : X.1 j_tape = (8, 30, 0, 0, 0)) (g_j_tongue : X.1 j_tongue = (9, 30, 0, 0, 0)) (g_j_row : X.1 j_row = (6, 30, 0, 0, 0)) (g_j_trees : X.1 j_trees = (10, 30, 0, 0, 0)) (g_j_choices : X.1 j_choices = (1, 30, 0, 0, 0)) (hpv : ∀ b : Nat, pv = some b → X.1 b = (4, 30, 0, 0, 0)) (hst : 0 ≤ st ∧ st ≤ 20) (kr : -2147483648 ≤ k ∧ k ≤ 2147483647) (i1r : -2147483648 ≤ i1 ∧ i1 ≤ 2147483647) : Met l yX11_ruleOf wsX11_ruleOf ({ frames := 1, cells := 0, slots := 0, locals := 21 }) (va_Pc [.ref o, .int (kz k), .int (kz i1)] (fun U => jK (dC, dI) ca U ∧ jv (dC, dI) ca A X U.heap ∧ va_at (dC, dI) vwCl (o, .inr (11, [.ref j_tape, .ref j_tongue, .ref j_row, .ref j_trees, .ref j_choices, va_rf pv, .int (kz st)])) U.heap)) (vp_Si (fun r => True)) 0 0 (fun _ => False) := by
  refine Met.ofW (cc := cX11_ruleOf) (maxL := 5) (ret := (some .int)) (by decide) rfl ?_
  intro p e s m args below meth c s₁ B hml hv
  obtain ⟨rfl, ⟨hK, hN⟩, hI, hO⟩ := hv
  have hx := B.exec
  have hb := B.bytes
  have hr := B.returns
  have hts := atoms_spec (ws := wsX11_ruleOf) B.pre
  have hown : s.vm.findClass RX11 = some m.cls := findClass_of_methodNamed B.named
  have hL212 := hts (.fieldLink RX11 212 "JoinBench$Path" "chain" "LJoinBench$Chain;") (by decide +kernel)
  have hL220 := hts (.fieldLink RX11 220 "JoinBench$Rule" "number" "I") (by decide +kernel)
  have hinX5 : ∀ w ∈ u_ws RX5 TX5 6, w ∈ wsX11_ruleOf := by decide +kernel
  have hinX7 : ∀ w ∈ u_ws RX7 TX7 9, w ∈ wsX11_ruleOf := by decide +kernel
  have hl := lv_entry ([.ref o, .int (kz k), .int (kz i1)]) (n := 5) (Nat.le_of_ble_eq_true rfl)
  rw [lg_entry_eq]
  generalize (lg_sl ([.ref o, .int (kz k), .int (kz i1)]) ++ List.replicate (5 - (lg_sl ([.ref o, .int (kz k), .int (kz i1)])).length) Slot.unset).toArray = ls at hl ⊢
  have hl : lv_has ls 5 [(0, .ref o), (1, .int (kz k)), (2, .int (kz i1))] := hl
  refine lv_aload_n hx hb dX11_ruleOf_0 rfl (lv_at hl 0 rfl) ?_
  refine lv_iload_n hx hb dX11_ruleOf_1 rfl (lv_at hl 1 rfl) ?_
  refine va_csq (va_Run.run (va_runV (As := [.int (kz k)]) (rest := []) ⟨hx, hb, hml, hown, hts⟩ (j_toldPath l dC dI ca A X hU o j_tape j_tongue j_row j_trees j_choices pv st k g_o hAo g_j_tape g_j_tongue g_j_row g_j_trees g_j_choices hpv (by omega) (by omega)) (cwV 1 hts gX11_ruleOf_X11_toldPath rfl rfl rfl (by decide +kernel) ⟨Nat.le_of_ble_eq_true rfl, Nat.le_of_ble_eq_true rfl⟩) ⟨fun a U g mk q => by obtain ⟨q0, ⟨qK, qN⟩, qI⟩ := q; exact ⟨q0, ⟨va_K.moved (u := U) (U := U.calling g mk a) (Vm.Alike.refl U.vm) qK, jN_same (U := U.calling g mk a) rfl qN⟩, qI⟩, va_recv hK (at_P hO) (ci := 11) (q0 := 0) rfl rfl, fun U hU hW => ⟨rfl, jK_warm hW ⟨hK, hN⟩, by rw [hU]; exact ⟨hI, hO⟩⟩⟩ rfl rfl hl.1 rfl (lv_room (Nat.le_of_ble_eq_true rfl)) dX11_ruleOf_2 ⟨Nat.le_of_ble_eq_true rfl, Nat.le_of_ble_eq_true rfl⟩)) (fun r_2 hw_1 => ?_)
  rcases r_2 with _ | b_3
  · refine W.eq (g2 := F0 m 5 ls [.null]) rfl ?_
    refine lv_astore_nN (lv' := [(3, .null), (0, .ref o), (1, .int (kz k)), (2, .int (kz i1))]) hx hb dX11_ruleOf_5 rfl hl (by decide) rfl (fun ls hl => ?_)
    refine lv_aload_nN hx hb dX11_ruleOf_6 rfl (lv_at hl 0 rfl) ?_
    refine lv_ifnonnullN hx hb dX11_ruleOf_7 ?_
    refine lv_null hx hb dX11_ruleOf_10 ?_
    refine lv_goto (tgt := 22) hx hb dX11_ruleOf_11 (by decide) ?_
    refine lv_astoreN (lv' := [(4, .null), (3, .null), (0, .ref o), (1, .int (kz k)), (2, .int (kz i1))]) hx hb dX11_ruleOf_22 hl (by decide) rfl (fun ls hl => ?_)
    refine lv_aloadN hx hb dX11_ruleOf_24 (lv_at hl 0 rfl) ?_
    refine lv_ifnonnullN hx hb dX11_ruleOf_26 ?_
    refine lv_iconst (v := kz (-1)) hx hb dX11_ruleOf_29 rfl ?_
    refine lv_goto (tgt := 38) hx hb dX11_ruleOf_30 (by decide) ?_
    exact W.iret (v := kz (-1)) hx hb hr (fun t9 ht hW => ⟨kz (-1), rfl, trivial, ht⟩) (fun q h => absurd h List.not_mem_nil) dX11_ruleOf_38
  · obtain ⟨i_b_3, g_b_3⟩ := hw_1 b_3 rfl
    refine W.eq (g2 := F0 m 5 ls [.ref b_3]) rfl ?_
    refine lv_astore_n (lv' := [(3, .ref b_3), (0, .ref o), (1, .int (kz k)), (2, .int (kz i1))]) hx hb dX11_ruleOf_5 rfl hl (by decide) rfl (fun ls hl => ?_)
    refine lv_aload_n hx hb dX11_ruleOf_6 rfl (lv_at hl 0 rfl) ?_
    refine lv_ifnonnull (tgt := 14) hx hb dX11_ruleOf_7 (by decide) ?_
    refine lv_aload_n hx hb dX11_ruleOf_14 rfl (lv_at hl 0 rfl) ?_
    obtain ⟨fs9, co_4, jo9⟩ := jv_o5 hI g_b_3
    obtain ⟨chain_4, cost_4, spent_4, place_4, ended_4, rank_4, rfl, g_chain_4, ⟨cost_4a, cost_4b⟩, ⟨spent_4a, spent_4b⟩, ⟨place_4a, place_4b⟩, ⟨ended_4a, ended_4b⟩, ⟨rank_4a, rank_4b⟩⟩ := jo9
    refine iz_get (D := (dC, dI)) (ci := 5) (v := .ref chain_4) (C := RX5) (T := TX5) (N := 6) hx hb hts hinX5 hown hK co_4 rfl 0 (by decide) hL212 (fun _ h9 => h9) rfl dX11_ruleOf_15 ?_
    refine lv_iload_n hx hb dX11_ruleOf_18 rfl (lv_at hl 3 rfl) ?_
    obtain ⟨fs9, co_5, jo9⟩ := jv_o0 hI g_chain_4
    obtain ⟨forms_5, rules_5, size_5, rfl, g_forms_5, g_rules_5, ⟨size_5a, size_5b⟩, x_5_0⟩ := jo9
    refine va_csq (va_Run.run (va_runV (As := [.int (kz i1)]) (rest := []) ⟨hx, hb, hml, hown, hts⟩ (c_ruleAheadOf l dC dI ca A X hU chain_4 i1 i_b_3 g_chain_4 (by omega)) (cwV 1 hts gX11_ruleOf_X0_ruleAheadOf rfl rfl rfl (by decide +kernel) ⟨Nat.le_of_ble_eq_true rfl, Nat.le_of_ble_eq_true rfl⟩) ⟨fun a U g mk q => by obtain ⟨q0, ⟨qK, qN⟩, qI⟩ := q; exact ⟨q0, ⟨va_K.moved (u := U) (U := U.calling g mk a) (Vm.Alike.refl U.vm) qK, jN_same (U := U.calling g mk a) rfl qN⟩, qI⟩, va_recv hK (at_P co_5) (ci := 0) (q0 := 0) rfl rfl, fun U hU hW => ⟨rfl, jK_warm hW ⟨hK, hN⟩, by rw [hU]; exact hI⟩⟩ rfl rfl hl.1 rfl (lv_room (Nat.le_of_ble_eq_true rfl)) dX11_ruleOf_19 ⟨Nat.le_of_ble_eq_true rfl, Nat.le_of_ble_eq_true rfl⟩)) (fun r_7 hw_6 => ?_)
    rcases r_7 with _ | b_8
    · refine W.eq (g2 := F0 m 22 ls [.null]) rfl ?_
      refine lv_astoreN (lv' := [(4, .null), (3, .ref b_3), (0, .ref o), (1, .int (kz k)), (2, .int (kz i1))]) hx hb dX11_ruleOf_22 hl (by decide) rfl (fun ls hl => ?_)
      refine lv_aloadN hx hb dX11_ruleOf_24 (lv_at hl 0 rfl) ?_
      refine lv_ifnonnullN hx hb dX11_ruleOf_26 ?_
      refine lv_iconst (v := kz (-1)) hx hb dX11_ruleOf_29 rfl ?_
      refine lv_goto (tgt := 38) hx hb dX11_ruleOf_30 (by decide) ?_
      exact W.iret (v := kz (-1)) hx hb hr (fun t9 ht hW => ⟨kz (-1), rfl, trivial, ht⟩) (fun q h => absurd h List.not_mem_nil) dX11_ruleOf_38
    · obtain ⟨i_b_8, g_b_8⟩ := hw_6 b_8 rfl
      refine W.eq (g2 := F0 m 22 ls [.ref b_8]) rfl ?_
      refine lv_astore (lv' := [(4, .ref b_8), (3, .ref b_3), (0, .ref o), (1, .int (kz k)), (2, .int (kz i1))]) hx hb dX11_ruleOf_22 hl (by decide) rfl (fun ls hl => ?_)
      refine lv_aload hx hb dX11_ruleOf_24 (lv_at hl 0 rfl) ?_
      refine lv_ifnonnull (tgt := 33) hx hb dX11_ruleOf_26 (by decide) ?_
      refine lv_aload hx hb dX11_ruleOf_33 (lv_at hl 0 rfl) ?_
      obtain ⟨fs9, co_9, jo9⟩ := jv_o7 hI g_b_8
      obtain ⟨ln_9, letters_9, endSize_9, beginningSize_9, comesFrom_9, comesSize_9, cost_9, firstDay_9, lastDay_9, number_9, rfl, g_letters_9, ⟨endSize_9a, endSize_9b⟩, ⟨beginningSize_9a, beginningSize_9b⟩, ⟨comesFrom_9a, comesFrom_9b⟩, ⟨comesSize_9a, comesSize_9b⟩, ⟨cost_9a, cost_9b⟩, ⟨firstDay_9a, firstDay_9b⟩, ⟨lastDay_9a, lastDay_9b⟩, ⟨number_9a, number_9b⟩, x_9_0, x_9_1, x_9_2, x_9_3, x_9_4, x_9_5⟩ := jo9
      refine iz_get (D := (dC, dI)) (ci := 7) (v := .int (kz number_9)) (C := RX7) (T := TX7) (N := 9) hx hb hts hinX7 hown hK co_9 rfl 8 (by decide) hL220 (fun _ h9 => h9) rfl dX11_ruleOf_35 ?_
      exact W.iret (v := kz number_9) hx hb hr (fun t9 ht hW => ⟨kz number_9, rfl, trivial, ht⟩) (fun q h => absurd h List.not_mem_nil) dX11_ruleOf_38
set_option maxHeartbeats 4000000 in
set_option maxRecDepth 100000 in
/-- X11_choose -/
theorem j_choose (l : Launch) (dC : Nat → ClassId) (dI : Nat → Nat → Nat) (ca : Nat → ClassId) (A : Nat → Prop) (X : jG) (hU : jU X) (Hp : Heap) (o : Nat) (j_tape : Nat) (j_tongue : Nat) (j_row : Nat) (j_trees : Nat) (j_choices : Nat) (pv : Option Nat) (st : Int) (k : Int) (g_o : X.1 o = (999, 0, 0, 0, 0)) (hAo : A o) (g_j_tape : X.1 j_tape = (8, 30, 0, 0, 0)) (g_j_tongue : X.1 j_tongue = (9, 30, 0, 0, 0)) (g_j_row : X.1 j_row = (6, 30, 0, 0, 0)) (g_j_trees : X.1 j_trees = (10, 30, 0, 0, 0)) (g_j_choices : X.1 j_choices = (1, 30, 0, 0, 0)) (hpv : ∀ b : Nat, pv = some b → X.1 b = (4, 30, 0, 0, 0)) (hst : 0 ≤ st ∧ st ≤ 20) (kr : -2147483648 ≤ k ∧ k ≤ 2147483647) : Met l yX11_choose wsX11_choose ({ frames := 2, cells := 0, slots := 0, locals := 41 }) (va_Pc [.ref o, .int (kz k)] (fun U => U.heap = Hp ∧ jK (dC, dI) ca U ∧ jv (dC, dI) ca A X U.heap ∧ va_at (dC, dI) vwCl (o, .inr (11, [.ref j_tape, .ref j_tongue, .ref j_row, .ref j_trees, .ref j_choices, va_rf pv, .int (kz st)])) U.heap)) (va_Qi (fun (r : Int32) (u : Int) => u = st) (fun (u : Int) U => jK (dC, dI) ca U ∧ jv (dC, dI) ca A X U.heap ∧ va_at (dC, dI) vwCl (o, .inr (11, [.ref j_tape, .ref j_tongue, .ref j_row, .ref j_trees, .ref j_choices, va_rf pv, .int (kz u)])) U.heap) A) 0 0 A := by
  refine Met.ofW (cc := cX11_choose) (maxL := 3) (ret := (some .int)) (by decide) rfl ?_
  intro p e s m args below meth c s₁ B hml hv
  obtain ⟨rfl, hHp, ⟨hK, hN⟩, hI, hO⟩ := hv
  have hx := B.exec
  have hb := B.bytes
  have hr := B.returns
  have hts := atoms_spec (ws := wsX11_choose) B.pre
  have hown : s.vm.findClass RX11 = some m.cls := findClass_of_methodNamed B.named
  have hL40 := hts (.fieldLink RX11 40 "JoinBench" "choices" "LJoinBench$Choices;") (by decide +kernel)
  have hL19 := hts (.fieldLink RX11 19 "JoinBench" "tongue" "LJoinBench$Tongue;") (by decide +kernel)
  have hL212 := hts (.fieldLink RX11 212 "JoinBench$Path" "chain" "LJoinBench$Chain;") (by decide +kernel)
  have hL48 := hts (.fieldLink RX11 48 "JoinBench" "step" "I") (by decide +kernel)
  have hL232 := hts (.fieldLink RX11 232 "JoinBench$Choices" "size" "I") (by decide +kernel)
  have hinX1 : ∀ w ∈ u_ws RX1 TX1 6, w ∈ wsX11_choose := by decide +kernel
  have hinX11 : ∀ w ∈ u_ws RX11 TX11 7, w ∈ wsX11_choose := by decide +kernel
  have hinX5 : ∀ w ∈ u_ws RX5 TX5 6, w ∈ wsX11_choose := by decide +kernel
  obtain ⟨H, hH⟩ : ∃ H : Heap, H = s.heap := ⟨_, rfl⟩
  have hS : va_S A s.heap H [] := by rw [hH]; exact va_S.rf
  have hF : kfm X [1, 2, 215, 218, 230, 231] Hp H := by rw [hH, hHp]; exact fm_rf _ _ _
  rw [← hH] at hI hO ⊢
  clear hH
  have hl := lv_entry ([.ref o, .int (kz k)]) (n := 3) (Nat.le_of_ble_eq_true rfl)
  rw [lg_entry_eq]
  generalize (lg_sl ([.ref o, .int (kz k)]) ++ List.replicate (3 - (lg_sl ([.ref o, .int (kz k)])).length) Slot.unset).toArray = ls at hl ⊢
  have hl : lv_has ls 3 [(0, .ref o), (1, .int (kz k))] := hl
  refine lv_aload_n hx hb dX11_choose_0 rfl (lv_at hl 0 rfl) ?_
  refine lv_iload_n hx hb dX11_choose_1 rfl (lv_at hl 1 rfl) ?_
  refine va_csq (va_Run.run (va_runV (As := [.int (kz k)]) (rest := []) ⟨hx, hb, hml, hown, hts⟩ (j_toldPath l dC dI ca A X hU o j_tape j_tongue j_row j_trees j_choices pv st k g_o hAo g_j_tape g_j_tongue g_j_row g_j_trees g_j_choices hpv (by omega) (by omega)) (cwV 1 hts gX11_choose_X11_toldPath rfl rfl rfl (by decide +kernel) ⟨Nat.le_of_ble_eq_true rfl, Nat.le_of_ble_eq_true rfl⟩) ⟨fun a U g mk q => by obtain ⟨q0, ⟨qK, qN⟩, qI⟩ := q; exact ⟨q0, ⟨va_K.moved (u := U) (U := U.calling g mk a) (Vm.Alike.refl U.vm) qK, jN_same (U := U.calling g mk a) rfl qN⟩, qI⟩, va_recv hK (at_P hO) (ci := 11) (q0 := 0) rfl rfl, fun U hU hW => ⟨rfl, jK_warm hW ⟨hK, hN⟩, by rw [hU]; exact ⟨hI, hO⟩⟩⟩ rfl rfl hl.1 rfl (lv_room (Nat.le_of_ble_eq_true rfl)) dX11_choose_2 ⟨Nat.le_of_ble_eq_true rfl, Nat.le_of_ble_eq_true rfl⟩)) (fun r_2 hw_1 => ?_)
  rcases r_2 with _ | b_3
  · refine W.eq (g2 := F0 m 5 ls [.null]) rfl ?_
    refine lv_astore_nN (lv' := [(2, .null), (0, .ref o), (1, .int (kz k))]) hx hb dX11_choose_5 rfl hl (by decide) rfl (fun ls hl => ?_)
    refine lv_aload_nN hx hb dX11_choose_6 rfl (lv_at hl 0 rfl) ?_
    refine lv_ifnonnullN hx hb dX11_choose_7 ?_
    refine lv_iconst (v := kz (-1)) hx hb dX11_choose_10 rfl ?_
    exact W.iret (v := kz (-1)) hx hb hr (fun t9 ht hW => ⟨⟨kz (-1), st, rfl, rfl, jK_warm hW ⟨hK, hN⟩, by rw [ht]; exact ⟨hI, hO⟩⟩, hS.F ht⟩) hS.2.2 dX11_choose_11
  · obtain ⟨i_b_3, g_b_3⟩ := hw_1 b_3 rfl
    refine W.eq (g2 := F0 m 5 ls [.ref b_3]) rfl ?_
    refine lv_astore_n (lv' := [(2, .ref b_3), (0, .ref o), (1, .int (kz k))]) hx hb dX11_choose_5 rfl hl (by decide) rfl (fun ls hl => ?_)
    refine lv_aload_n hx hb dX11_choose_6 rfl (lv_at hl 0 rfl) ?_
    refine lv_ifnonnull (tgt := 12) hx hb dX11_choose_7 (by decide) ?_
    refine lv_aload_n hx hb dX11_choose_12 rfl (lv_at hl 1 rfl) ?_
    refine iz_get (D := (dC, dI)) (ci := 11) (v := .ref j_choices) (C := RX11) (T := TX11) (N := 7) hx hb hts hinX11 hown hK hO rfl 4 (by decide) hL40 (fun _ h9 => h9) rfl dX11_choose_13 ?_
    refine lv_aload_n hx hb dX11_choose_16 rfl (lv_at hl 1 rfl) ?_
    refine iz_get (D := (dC, dI)) (ci := 11) (v := .ref j_tongue) (C := RX11) (T := TX11) (N := 7) hx hb hts hinX11 hown hK hO rfl 1 (by decide) hL19 (fun _ h9 => h9) rfl dX11_choose_17 ?_
    obtain ⟨fs9, co_4, jo9⟩ := jv_o1 hI g_j_choices
    obtain ⟨uses_4, size_4, cb_4, ub_4, fb_4, oldest_4, rfl, g_uses_4, ⟨size_4a, size_4b⟩, g_cb_4, g_ub_4, g_fb_4, ⟨oldest_4a, oldest_4b⟩⟩ := jo9
    refine va_callv (va_runV (As := [.ref j_tongue]) (rest := []) ⟨hx, hb, hml, hown, hts⟩ (c_remember l dC dI ca A X hU H j_choices j_tongue uses_4 size_4 cb_4 ub_4 fb_4 oldest_4 g_j_choices g_j_tongue g_uses_4 (by omega) g_cb_4 g_ub_4 g_fb_4 (by omega)) (cwV 1 hts gX11_choose_X1_remember rfl rfl rfl (by decide +kernel) ⟨Nat.le_of_ble_eq_true rfl, Nat.le_of_ble_eq_true rfl⟩) ⟨fun a U g mk q => by obtain ⟨q0, qH, ⟨qK, qN⟩, qI⟩ := q; exact ⟨q0, qH, ⟨va_K.moved (u := U) (U := U.calling g mk a) (Vm.Alike.refl U.vm) qK, jN_same (U := U.calling g mk a) rfl qN⟩, qI⟩, va_recv hK (at_P co_4) (ci := 1) (q0 := 0) rfl rfl, fun U hU hW => ⟨rfl, hU, jK_warm hW ⟨hK, hN⟩, by rw [hU]; exact ⟨hI, co_4⟩⟩⟩ rfl rfl hl.1 rfl (lv_room (Nat.le_of_ble_eq_true rfl)) dX11_choose_20 ⟨Nat.le_of_ble_eq_true rfl, Nat.le_of_ble_eq_true rfl⟩) hS (fun q _ h => h) (fun q h => h) (fun u t9 H locs ht hvm hw_5 hB hz1 hk1 hS => ?_)
    obtain ⟨-, hI, hf9⟩ := hB
    rw [ht] at hI hf9
    clear ht hvm hz1
    have hO := fm_at hf9 g_o (show (999 : Nat) ∉ ([1, 218, 230, 231] : List Nat) by decide) hO
    have hF := fm_tr hF hf9 (by decide)
    clear hk1 hf9
    refine lv_aload_n hx hb dX11_choose_23 rfl (lv_at hl 1 rfl) ?_
    refine iz_get (D := (dC, dI)) (ci := 11) (v := .ref j_choices) (C := RX11) (T := TX11) (N := 7) hx hb hts hinX11 hown hK hO rfl 4 (by decide) hL40 (fun _ h9 => h9) rfl dX11_choose_24 ?_
    refine lv_aload_n hx hb dX11_choose_27 rfl (lv_at hl 0 rfl) ?_
    obtain ⟨fs9, co_7, jo9⟩ := jv_o5 hI g_b_3
    obtain ⟨chain_7, cost_7, spent_7, place_7, ended_7, rank_7, rfl, g_chain_7, ⟨cost_7a, cost_7b⟩, ⟨spent_7a, spent_7b⟩, ⟨place_7a, place_7b⟩, ⟨ended_7a, ended_7b⟩, ⟨rank_7a, rank_7b⟩⟩ := jo9
    refine iz_get (D := (dC, dI)) (ci := 5) (v := .ref chain_7) (C := RX5) (T := TX5) (N := 6) hx hb hts hinX5 hown hK co_7 rfl 0 (by decide) hL212 (fun _ h9 => h9) rfl dX11_choose_28 ?_
    refine lv_aload_n hx hb dX11_choose_31 rfl (lv_at hl 1 rfl) ?_
    refine iz_get (D := (dC, dI)) (ci := 11) (v := .int (kz st)) (C := RX11) (T := TX11) (N := 7) hx hb hts hinX11 hown hK hO rfl 6 (by decide) hL48 (fun _ h9 => h9) rfl dX11_choose_32 ?_
    obtain ⟨fs9, co_8, jo9⟩ := jv_o1 hI g_j_choices
    obtain ⟨uses_8, size_8, cb_8, ub_8, fb_8, oldest_8, rfl, g_uses_8, ⟨size_8a, size_8b⟩, g_cb_8, g_ub_8, g_fb_8, ⟨oldest_8a, oldest_8b⟩⟩ := jo9
    have e9 : uses_4 = uses_8 := jU_eq hU g_uses_4 g_uses_8 (show (20 : Nat) ≠ 0 by decide) (show uq 215 = true by decide)
    subst e9
    have e9 : cb_4 = cb_8 := jU_eq hU g_cb_4 g_cb_8 (show (27 : Nat) ≠ 0 by decide) (show uq 216 = true by decide)
    subst e9
    have e9 : ub_4 = ub_8 := jU_eq hU g_ub_4 g_ub_8 (show (27 : Nat) ≠ 0 by decide) (show uq 217 = true by decide)
    subst e9
    have e9 : fb_4 = fb_8 := jU_eq hU g_fb_4 g_fb_8 (show (20 : Nat) ≠ 0 by decide) (show uq 218 = true by decide)
    subst e9
    refine va_callv (va_runV (As := [.ref chain_7, .int (kz st)]) (rest := []) ⟨hx, hb, hml, hown, hts⟩ (c_learn l dC dI ca A X hU H j_choices chain_7 st i_b_3 g_j_choices g_chain_7 (by omega)) (cwV 2 hts gX11_choose_X1_learn rfl rfl rfl (by decide +kernel) ⟨Nat.le_of_ble_eq_true rfl, Nat.le_of_ble_eq_true rfl⟩) ⟨fun a U g mk q => by obtain ⟨q0, qH, ⟨qK, qN⟩, qI⟩ := q; exact ⟨q0, qH, ⟨va_K.moved (u := U) (U := U.calling g mk a) (Vm.Alike.refl U.vm) qK, jN_same (U := U.calling g mk a) rfl qN⟩, qI⟩, va_recv hK (at_P co_8) (ci := 1) (q0 := 0) rfl rfl, fun U hU hW => ⟨rfl, hU, jK_warm hW ⟨hK, hN⟩, by rw [hU]; exact hI⟩⟩ rfl rfl hl.1 rfl (lv_room (Nat.le_of_ble_eq_true rfl)) dX11_choose_35 ⟨Nat.le_of_ble_eq_true rfl, Nat.le_of_ble_eq_true rfl⟩) hS (fun q _ h => h) (fun q h => h) (fun u t9 H locs ht hvm hw_9 hB hz1 hk1 hS => ?_)
    obtain ⟨-, hI, hf9⟩ := hB
    rw [ht] at hI hf9
    clear ht hvm hz1
    have hO := fm_at hf9 g_o (show (999 : Nat) ∉ ([2, 215] : List Nat) by decide) hO
    have co_7 := fm_at hf9 g_b_3 (show (5 : Nat) ∉ ([2, 215] : List Nat) by decide) co_7
    have co_8 := fm_at hf9 g_j_choices (show (1 : Nat) ∉ ([2, 215] : List Nat) by decide) co_8
    have hF := fm_tr hF hf9 (by decide)
    clear hk1 hf9
    refine lv_aload_n hx hb dX11_choose_38 rfl (lv_at hl 1 rfl) ?_
    refine iz_get (D := (dC, dI)) (ci := 11) (v := .ref j_choices) (C := RX11) (T := TX11) (N := 7) hx hb hts hinX11 hown hK hO rfl 4 (by decide) hL40 (fun _ h9 => h9) rfl dX11_choose_39 ?_
    refine iz_get (D := (dC, dI)) (ci := 1) (v := .int (kz size_8)) (C := RX1) (T := TX1) (N := 6) hx hb hts hinX1 hown hK co_8 rfl 1 (by decide) hL232 (fun _ h9 => h9) rfl dX11_choose_42 ?_
    exact W.iret (v := kz size_8) hx hb hr (fun t9 ht hW => ⟨⟨kz size_8, st, rfl, rfl, jK_warm hW ⟨hK, hN⟩, by rw [ht]; exact ⟨hI, hO⟩⟩, hS.F ht⟩) hS.2.2 dX11_choose_45
set_option maxHeartbeats 4000000 in
set_option maxRecDepth 100000 in
/-- X11_undo -/
theorem j_undo (l : Launch) (dC : Nat → ClassId) (dI : Nat → Nat → Nat) (ca : Nat → ClassId) (A : Nat → Prop) (X : jG) (hU : jU X) (Hp : Heap) (o : Nat) (j_tape : Nat) (j_tongue : Nat) (j_row : Nat) (j_trees : Nat) (j_choices : Nat) (pv : Option Nat) (st : Int) (g_o : X.1 o = (999, 0, 0, 0, 0)) (hAo : A o) (g_j_tape : X.1 j_tape = (8, 30, 0, 0, 0)) (g_j_tongue : X.1 j_tongue = (9, 30, 0, 0, 0)) (g_j_row : X.1 j_row = (6, 30, 0, 0, 0)) (g_j_trees : X.1 j_trees = (10, 30, 0, 0, 0)) (g_j_choices : X.1 j_choices = (1, 30, 0, 0, 0)) (hpv : ∀ b : Nat, pv = some b → X.1 b = (4, 30, 0, 0, 0)) (hst : 0 ≤ st ∧ st ≤ 20) : Met l yX11_undo wsX11_undo ({ frames := 2, cells := 0, slots := 0, locals := 41 }) (va_Pc [.ref o] (fun U => U.heap = Hp ∧ jK (dC, dI) ca U ∧ jv (dC, dI) ca A X U.heap ∧ va_at (dC, dI) vwCl (o, .inr (11, [.ref j_tape, .ref j_tongue, .ref j_row, .ref j_trees, .ref j_choices, va_rf pv, .int (kz st)])) U.heap)) (va_Qi (fun (r : Int32) (u : Int) => u = st) (fun (u : Int) U => jK (dC, dI) ca U ∧ jv (dC, dI) ca A X U.heap ∧ va_at (dC, dI) vwCl (o, .inr (11, [.ref j_tape, .ref j_tongue, .ref j_row, .ref j_trees, .ref j_choices, va_rf pv, .int (kz u)])) U.heap) A) 0 0 A := by
  refine Met.ofW (cc := cX11_undo) (maxL := 1) (ret := (some .boolean)) (by decide) rfl ?_
  intro p e s m args below meth c s₁ B hml hv
  obtain ⟨rfl, hHp, ⟨hK, hN⟩, hI, hO⟩ := hv
  have hx := B.exec
  have hb := B.bytes
  have hr := B.returns
  have hts := atoms_spec (ws := wsX11_undo) B.pre
  have hown : s.vm.findClass RX11 = some m.cls := findClass_of_methodNamed B.named
  have hL40 := hts (.fieldLink RX11 40 "JoinBench" "choices" "LJoinBench$Choices;") (by decide +kernel)
  have hL19 := hts (.fieldLink RX11 19 "JoinBench" "tongue" "LJoinBench$Tongue;") (by decide +kernel)
  have hinX11 : ∀ w ∈ u_ws RX11 TX11 7, w ∈ wsX11_undo := by decide +kernel
  obtain ⟨H, hH⟩ : ∃ H : Heap, H = s.heap := ⟨_, rfl⟩
  have hS : va_S A s.heap H [] := by rw [hH]; exact va_S.rf
  have hF : kfm X [1, 2, 215] Hp H := by rw [hH, hHp]; exact fm_rf _ _ _
  rw [← hH] at hI hO ⊢
  clear hH
  have hl := lv_entry ([.ref o]) (n := 1) (Nat.le_of_ble_eq_true rfl)
  rw [lg_entry_eq]
  generalize (lg_sl ([.ref o]) ++ List.replicate (1 - (lg_sl ([.ref o])).length) Slot.unset).toArray = ls at hl ⊢
  have hl : lv_has ls 1 [(0, .ref o)] := hl
  refine lv_aload_n hx hb dX11_undo_0 rfl (lv_at hl 0 rfl) ?_
  refine iz_get (D := (dC, dI)) (ci := 11) (v := .ref j_choices) (C := RX11) (T := TX11) (N := 7) hx hb hts hinX11 hown hK hO rfl 4 (by decide) hL40 (fun _ h9 => h9) rfl dX11_undo_1 ?_
  refine lv_aload_n hx hb dX11_undo_4 rfl (lv_at hl 0 rfl) ?_
  refine iz_get (D := (dC, dI)) (ci := 11) (v := .ref j_tongue) (C := RX11) (T := TX11) (N := 7) hx hb hts hinX11 hown hK hO rfl 1 (by decide) hL19 (fun _ h9 => h9) rfl dX11_undo_5 ?_
  obtain ⟨fs9, co_1, jo9⟩ := jv_o1 hI g_j_choices
  obtain ⟨uses_1, size_1, cb_1, ub_1, fb_1, oldest_1, rfl, g_uses_1, ⟨size_1a, size_1b⟩, g_cb_1, g_ub_1, g_fb_1, ⟨oldest_1a, oldest_1b⟩⟩ := jo9
  refine va_calli (va_runV (As := [.ref j_tongue]) (rest := []) ⟨hx, hb, hml, hown, hts⟩ (c_restore l dC dI ca A X hU H j_choices j_tongue g_j_choices g_j_tongue) (cwV 1 hts gX11_undo_X1_restore rfl rfl rfl (by decide +kernel) ⟨Nat.le_of_ble_eq_true rfl, Nat.le_of_ble_eq_true rfl⟩) ⟨fun a U g mk q => by obtain ⟨q0, qH, ⟨qK, qN⟩, qI⟩ := q; exact ⟨q0, qH, ⟨va_K.moved (u := U) (U := U.calling g mk a) (Vm.Alike.refl U.vm) qK, jN_same (U := U.calling g mk a) rfl qN⟩, qI⟩, va_recv hK (at_P co_1) (ci := 1) (q0 := 0) rfl rfl, fun U hU hW => ⟨rfl, hU, jK_warm hW ⟨hK, hN⟩, by rw [hU]; exact hI⟩⟩ rfl rfl hl.1 rfl (lv_room (Nat.le_of_ble_eq_true rfl)) dX11_undo_8 ⟨Nat.le_of_ble_eq_true rfl, Nat.le_of_ble_eq_true rfl⟩) hS (fun q _ h => h) (fun q h => h) (fun r_3 u t9 H locs ht hvm hw_2 hB hz1 hk1 hS => ?_)
  obtain ⟨-, hI, hf9⟩ := hB
  rw [ht] at hI hf9
  clear ht hvm hz1
  have hO := fm_at hf9 g_o (show (999 : Nat) ∉ ([1, 2, 215] : List Nat) by decide) hO
  have hF := fm_tr hF hf9 (by decide)
  clear hk1 hf9
  rcases hw_2 with rfl | rfl
  · exact W.zret (v := kz 1) hx hb hr (by decide) (fun t9 ht hW => ⟨⟨kz 1, st, rfl, rfl, jK_warm hW ⟨hK, hN⟩, by rw [ht]; exact ⟨hI, hO⟩⟩, hS.F ht⟩) hS.2.2 dX11_undo_11
  · exact W.zret (v := kz 0) hx hb hr (by decide) (fun t9 ht hW => ⟨⟨kz 0, st, rfl, rfl, jK_warm hW ⟨hK, hN⟩, by rw [ht]; exact ⟨hI, hO⟩⟩, hS.F ht⟩) hS.2.2 dX11_undo_11
