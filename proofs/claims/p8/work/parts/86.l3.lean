set_option maxHeartbeats 4000000 in
set_option maxRecDepth 100000 in
theorem law_m18 {p : Program} {l : Launch} {e : Env} {s : State} {m : MethodId} {below : List Frame} {meth : Method} {c : Code} {b L : Nat} {xs : Nat → Int32} {dC : Nat → ClassId} {dI : Nat → Nat → Nat} {ca : Nat → ClassId} {o m0 n1 z9 k : Nat} {ff fm : Nat → Int32} (C : lCx p s m meth c b L xs (dC, dI) ca o m0 n1 k) (kk : lKk p l e s m below meth c b (dC, dI) ca o m0 n1 z9 k) {pv : Option Nat} {st : Int} {H : Heap} {locs : List Loc} {ls : Array Slot} {cells slots : Nat} (hX : lX (dC, dI) ca s.heap.size m0 n1 o z9 ff pv st H) (hM : lM (dC, dI) ca m0 n1 fm H) (hR : lR ff fm) (hS : va_S (fun q : Nat => s.heap.size ≤ q) s.heap H locs) (hl : lv_has ls 4 [(3, .int (kz (6 * (k : Int)))), (2, .ref m0), (1, .ref o), (0, .ref b)]) (hB : bud (k + 1) pv cells slots) : W p l e room_1 s m #[Value.ref b] below meth c H locs cells slots (lw_Z below #[Value.ref b] s) (F0 m 833 ls []) := by
  obtain ⟨⟨hx, hb, hr, hml, hown, hts0, hSc, hbl, hlocks, hgv⟩, hL, hJ, hKm, hAo, hAm, hk⟩ := id C
  have hb : c.code = cL_law := hb
  have hown : s.vm.findClass RL = some m.cls := hown
  have hts : ∀ w ∈ wsL_law, w.before #[Value.ref b] s = true := fun w h => hts0 w (wsL_law_in w h)
  have hbA : ¬ (fun q : Nat => s.heap.size ≤ q) b := Nat.not_le.mpr hbl
  obtain ⟨hB1, hB2⟩ := hB
  obtain ⟨Xm, zi, zl, mS9, mZ9, ⟨mI9, mO9⟩, c_m⟩ := id hM
  refine lv_aload_n hx hb dL_law_833 rfl (lv_at hl 1 rfl) ?_
  refine lv_aload_n hx hb dL_law_834 rfl (lv_at hl 3 rfl) ?_
  refine lv_iload_n hx hb dL_law_835 rfl (lv_at hl 0 rfl) ?_
  refine lv_iconst (v := kz 1) hx hb dL_law_836 rfl ?_
  refine iz_iadd hx hb dL_law_837 ?_
  refine va_sld hx hb hSc hbl hbA hS (kz_in (n := L) (z := 6 * (k : Int) + 1) (by omega) (by omega) (by omega)) dL_law_838 ?_
  refine iz_any (fun z_m1 z_m1a z_m1b _ => ?_)
  refine lv_aload_n hx hb dL_law_839 rfl (lv_at hl 3 rfl) ?_
  refine lv_iload_n hx hb dL_law_840 rfl (lv_at hl 0 rfl) ?_
  refine lv_iconst (v := kz 2) hx hb dL_law_841 rfl ?_
  refine iz_iadd hx hb dL_law_842 ?_
  refine va_sld hx hb hSc hbl hbA hS (kz_in (n := L) (z := 6 * (k : Int) + 2) (by omega) (by omega) (by omega)) dL_law_843 ?_
  refine iz_any (fun z_m2 z_m2a z_m2b _ => ?_)
  refine vp_callSi (va_Run.run (va_runV (As := [.int (kz z_m1), .int (kz z_m2)]) (rest := []) ⟨hx, hb, hml, hown, hts⟩ (m_ruleOf l dC dI ca (lAm m0 n1) Xm m0 (mam n1) zi zl mS9 mZ9 z_m1 z_m2 ⟨z_m1a, z_m1b⟩ ⟨z_m2a, z_m2b⟩) (cwV 2 hts gL_law_X12_ruleOf rfl rfl rfl (by decide +kernel) ⟨Nat.le_of_ble_eq_true rfl, Nat.le_of_ble_eq_true rfl⟩) ⟨fun a U g mk q => by obtain ⟨q0, qK, qI⟩ := q; exact ⟨q0, va_K.moved (u := U) (U := U.calling g mk a) (Vm.Alike.refl U.vm) qK, qI⟩, va_recv hKm (at_P mO9) (ci := 12) (q0 := 0) rfl rfl, fun U hU9 hW => ⟨rfl, va_K.moved hW.alike hKm, by rw [hU9]; exact ⟨mI9, mO9⟩⟩⟩ rfl rfl hl.1 rfl (lv_room (Nat.le_of_ble_eq_true rfl)) dL_law_844 ⟨(by show _ + 0 ≤ 600000; omega), (by show _ + 0 ≤ 7302250; omega)⟩)) (fun r9 _ => ?_)
  refine lv_pop hx hb dL_law_847 rfl ?_
  refine lv_goto (tgt := 1022) hx hb dL_law_848 (by decide) ?_
  exact kk ff fm pv st H locs ls cells slots hX hM hR hS hl ⟨hB1, hB2⟩
set_option maxHeartbeats 4000000 in
set_option maxRecDepth 100000 in
theorem law_c18 {p : Program} {l : Launch} {e : Env} {s : State} {m : MethodId} {below : List Frame} {meth : Method} {c : Code} {b L : Nat} {xs : Nat → Int32} {dC : Nat → ClassId} {dI : Nat → Nat → Nat} {ca : Nat → ClassId} {o m0 n1 z9 k : Nat} {ff fm : Nat → Int32} (C : lCx p s m meth c b L xs (dC, dI) ca o m0 n1 k) (kk : lKk p l e s m below meth c b (dC, dI) ca o m0 n1 z9 k) {pv : Option Nat} {st : Int} {H : Heap} {locs : List Loc} {ls : Array Slot} {cells slots : Nat} (hX : lX (dC, dI) ca s.heap.size m0 n1 o z9 ff pv st H) (hM : lM (dC, dI) ca m0 n1 fm H) (hR : lR ff fm) (hS : va_S (fun q : Nat => s.heap.size ≤ q) s.heap H locs) (hl : lv_has ls 4 [(3, .int (kz (6 * (k : Int)))), (2, .ref m0), (1, .ref o), (0, .ref b)]) (hB : bud k pv cells slots) : W p l e room_1 s m #[Value.ref b] below meth c H locs cells slots (lw_Z below #[Value.ref b] s) (F0 m 818 ls []) := by
  obtain ⟨⟨hx, hb, hr, hml, hown, hts0, hSc, hbl, hlocks, hgv⟩, hL, hJ, hKm, hAo, hAm, hk⟩ := id C
  have hb : c.code = cL_law := hb
  have hown : s.vm.findClass RL = some m.cls := hown
  have hts : ∀ w ∈ wsL_law, w.before #[Value.ref b] s = true := fun w h => hts0 w (wsL_law_in w h)
  have hbA : ¬ (fun q : Nat => s.heap.size ≤ q) b := Nat.not_le.mpr hbl
  obtain ⟨hB1, hB2⟩ := hB
  obtain ⟨X, t1, t2, t3, t4, t5, hU, hI, g_o, g1, g2, g3, g4, g5, hpv, hst, hO, ht9, hF, g_z, c_z⟩ := id hX
  refine lv_aload_n hx hb dL_law_818 rfl (lv_at hl 2 rfl) ?_
  refine lv_aload_n hx hb dL_law_819 rfl (lv_at hl 3 rfl) ?_
  refine lv_iload_n hx hb dL_law_820 rfl (lv_at hl 0 rfl) ?_
  refine lv_iconst (v := kz 1) hx hb dL_law_821 rfl ?_
  refine iz_iadd hx hb dL_law_822 ?_
  refine va_sld hx hb hSc hbl hbA hS (kz_in (n := L) (z := 6 * (k : Int) + 1) (by omega) (by omega) (by omega)) dL_law_823 ?_
  refine iz_any (fun z_o1 z_o1a z_o1b _ => ?_)
  refine lv_aload_n hx hb dL_law_824 rfl (lv_at hl 3 rfl) ?_
  refine lv_iload_n hx hb dL_law_825 rfl (lv_at hl 0 rfl) ?_
  refine lv_iconst (v := kz 2) hx hb dL_law_826 rfl ?_
  refine iz_iadd hx hb dL_law_827 ?_
  refine va_sld hx hb hSc hbl hbA hS (kz_in (n := L) (z := 6 * (k : Int) + 2) (by omega) (by omega) (by omega)) dL_law_828 ?_
  refine iz_any (fun z_o2 z_o2a z_o2b _ => ?_)
  refine vp_callSi (va_Run.run (va_runV (As := [.int (kz z_o1), .int (kz z_o2)]) (rest := []) ⟨hx, hb, hml, hown, hts⟩ (j_ruleOf l dC dI ca (lAx s.heap.size m0 n1) X hU o t1 t2 t3 t4 t5 pv st z_o1 z_o2 g_o hAo g1 g2 g3 g4 g5 hpv hst ⟨z_o1a, z_o1b⟩ ⟨z_o2a, z_o2b⟩) (cwV 2 hts gL_law_X11_ruleOf rfl rfl rfl (by decide +kernel) ⟨Nat.le_of_ble_eq_true rfl, Nat.le_of_ble_eq_true rfl⟩) ⟨fun a U g mk q => by obtain ⟨q0, ⟨qK, qN⟩, qI⟩ := q; exact ⟨q0, ⟨va_K.moved (u := U) (U := U.calling g mk a) (Vm.Alike.refl U.vm) qK, jN_same (U := U.calling g mk a) rfl qN⟩, qI⟩, va_recv hKm (at_P hO) (ci := 11) (q0 := 0) rfl rfl, fun U hU9 hW => ⟨rfl, jK_warm hW hJ, by rw [hU9]; exact ⟨hI, hO⟩⟩⟩ rfl rfl hl.1 rfl (lv_room (Nat.le_of_ble_eq_true rfl)) dL_law_829 ⟨(by show _ + 0 ≤ 600000; omega), (by show _ + 0 ≤ 7302250; omega)⟩)) (fun r9 _ => ?_)
  refine lv_pop hx hb dL_law_832 rfl ?_
  exact law_m18 C kk hX hM hR hS hl ⟨by omega, by omega⟩
set_option maxHeartbeats 4000000 in
set_option maxRecDepth 100000 in
theorem law_m19 {p : Program} {l : Launch} {e : Env} {s : State} {m : MethodId} {below : List Frame} {meth : Method} {c : Code} {b L : Nat} {xs : Nat → Int32} {dC : Nat → ClassId} {dI : Nat → Nat → Nat} {ca : Nat → ClassId} {o m0 n1 z9 k : Nat} {ff fm : Nat → Int32} (C : lCx p s m meth c b L xs (dC, dI) ca o m0 n1 k) (kk : lKk p l e s m below meth c b (dC, dI) ca o m0 n1 z9 k) {pv : Option Nat} {st : Int} {H : Heap} {locs : List Loc} {ls : Array Slot} {cells slots : Nat} (hX : lX (dC, dI) ca s.heap.size m0 n1 o z9 ff pv st H) (hM : lM (dC, dI) ca m0 n1 fm H) (hR : lR ff fm) (hS : va_S (fun q : Nat => s.heap.size ≤ q) s.heap H locs) (hl : lv_has ls 4 [(3, .int (kz (6 * (k : Int)))), (2, .ref m0), (1, .ref o), (0, .ref b)]) (hB : bud (k + 1) pv cells slots) : W p l e room_1 s m #[Value.ref b] below meth c H locs cells slots (lw_Z below #[Value.ref b] s) (F0 m 866 ls []) := by
  obtain ⟨⟨hx, hb, hr, hml, hown, hts0, hSc, hbl, hlocks, hgv⟩, hL, hJ, hKm, hAo, hAm, hk⟩ := id C
  have hb : c.code = cL_law := hb
  have hown : s.vm.findClass RL = some m.cls := hown
  have hts : ∀ w ∈ wsL_law, w.before #[Value.ref b] s = true := fun w h => hts0 w (wsL_law_in w h)
  have hbA : ¬ (fun q : Nat => s.heap.size ≤ q) b := Nat.not_le.mpr hbl
  obtain ⟨hB1, hB2⟩ := hB
  obtain ⟨Xm, zi, zl, mS9, mZ9, ⟨mI9, mO9⟩, c_m⟩ := id hM
  refine lv_aload_n hx hb dL_law_866 rfl (lv_at hl 1 rfl) ?_
  refine lv_aload_n hx hb dL_law_867 rfl (lv_at hl 3 rfl) ?_
  refine lv_iload_n hx hb dL_law_868 rfl (lv_at hl 0 rfl) ?_
  refine lv_iconst (v := kz 1) hx hb dL_law_869 rfl ?_
  refine iz_iadd hx hb dL_law_870 ?_
  refine va_sld hx hb hSc hbl hbA hS (kz_in (n := L) (z := 6 * (k : Int) + 1) (by omega) (by omega) (by omega)) dL_law_871 ?_
  refine iz_any (fun z_m1 z_m1a z_m1b _ => ?_)
  refine lv_aload_n hx hb dL_law_872 rfl (lv_at hl 3 rfl) ?_
  refine lv_iload_n hx hb dL_law_873 rfl (lv_at hl 0 rfl) ?_
  refine lv_iconst (v := kz 2) hx hb dL_law_874 rfl ?_
  refine iz_iadd hx hb dL_law_875 ?_
  refine va_sld hx hb hSc hbl hbA hS (kz_in (n := L) (z := 6 * (k : Int) + 2) (by omega) (by omega) (by omega)) dL_law_876 ?_
  refine iz_any (fun z_m2 z_m2a z_m2b _ => ?_)
  refine va_calll (va_runV (As := [.int (kz z_m1), .int (kz z_m2)]) (rest := []) ⟨hx, hb, hml, hown, hts⟩ (m_treesF l dC dI ca (lAm m0 n1) Xm m0 (mam n1) 18 (Or.inr rfl) zi zl mS9 mZ9 z_m1 z_m2 ⟨z_m1a, z_m1b⟩ ⟨z_m2a, z_m2b⟩) (cwV 2 hts gL_law_X12_trees rfl rfl rfl (by decide +kernel) ⟨Nat.le_of_ble_eq_true rfl, Nat.le_of_ble_eq_true rfl⟩) ⟨fun a U g mk q => by obtain ⟨q0, qK, qI⟩ := q; exact ⟨q0, va_K.moved (u := U) (U := U.calling g mk a) (Vm.Alike.refl U.vm) qK, qI⟩, va_recv hKm (at_P mO9) (ci := 12) (q0 := 0) rfl rfl, fun U hU9 hW => ⟨rfl, va_K.moved hW.alike hKm, by rw [hU9]; exact ⟨mI9, mO9⟩⟩⟩ rfl rfl hl.1 rfl (lv_room (Nat.le_of_ble_eq_true rfl)) dL_law_877 ⟨(by show _ + 0 ≤ 600000; omega), (by show _ + 0 ≤ 7302250; omega)⟩) hS (fun q _ h => hAm q h.1) (fun q h => hAm q h.1) (fun r9 u t9 H1 locs1 ht hvm hw hQ hz1 hk1 hS1 => ?_)
  refine lv_pop2_2 hx hb dL_law_880 rfl ?_
  refine lv_goto (tgt := 1022) hx hb dL_law_881 (by decide) ?_
  obtain ⟨-, mI1⟩ := hQ
  rw [ht] at mI1
  have hM1 : lM (dC, dI) ca m0 n1 fm H1 := ⟨Xm, u.1, u.2, mS9, hw.1, mI1, c_m.kept (hk1 _ c_m.lt (fun h9 => h9.2 rfl))⟩
  exact kk ff fm pv st H1 locs1 ls cells slots (lX_kept hX hAo (fun q h1 h2 => hk1 q h1 (fun h => h2 h.1))) hM1 hR hS1 hl ⟨hB1, hB2⟩
set_option maxHeartbeats 4000000 in
set_option maxRecDepth 100000 in
theorem law_c19 {p : Program} {l : Launch} {e : Env} {s : State} {m : MethodId} {below : List Frame} {meth : Method} {c : Code} {b L : Nat} {xs : Nat → Int32} {dC : Nat → ClassId} {dI : Nat → Nat → Nat} {ca : Nat → ClassId} {o m0 n1 z9 k : Nat} {ff fm : Nat → Int32} (C : lCx p s m meth c b L xs (dC, dI) ca o m0 n1 k) (kk : lKk p l e s m below meth c b (dC, dI) ca o m0 n1 z9 k) {pv : Option Nat} {st : Int} {H : Heap} {locs : List Loc} {ls : Array Slot} {cells slots : Nat} (hX : lX (dC, dI) ca s.heap.size m0 n1 o z9 ff pv st H) (hM : lM (dC, dI) ca m0 n1 fm H) (hR : lR ff fm) (hS : va_S (fun q : Nat => s.heap.size ≤ q) s.heap H locs) (hl : lv_has ls 4 [(3, .int (kz (6 * (k : Int)))), (2, .ref m0), (1, .ref o), (0, .ref b)]) (hB : bud k pv cells slots) : W p l e room_1 s m #[Value.ref b] below meth c H locs cells slots (lw_Z below #[Value.ref b] s) (F0 m 851 ls []) := by
  obtain ⟨⟨hx, hb, hr, hml, hown, hts0, hSc, hbl, hlocks, hgv⟩, hL, hJ, hKm, hAo, hAm, hk⟩ := id C
  have hb : c.code = cL_law := hb
  have hown : s.vm.findClass RL = some m.cls := hown
  have hts : ∀ w ∈ wsL_law, w.before #[Value.ref b] s = true := fun w h => hts0 w (wsL_law_in w h)
  have hbA : ¬ (fun q : Nat => s.heap.size ≤ q) b := Nat.not_le.mpr hbl
  obtain ⟨hB1, hB2⟩ := hB
  obtain ⟨X, t1, t2, t3, t4, t5, hU, hI, g_o, g1, g2, g3, g4, g5, hpv, hst, hO, ht9, hF, g_z, c_z⟩ := id hX
  refine lv_aload_n hx hb dL_law_851 rfl (lv_at hl 2 rfl) ?_
  refine lv_aload_n hx hb dL_law_852 rfl (lv_at hl 3 rfl) ?_
  refine lv_iload_n hx hb dL_law_853 rfl (lv_at hl 0 rfl) ?_
  refine lv_iconst (v := kz 1) hx hb dL_law_854 rfl ?_
  refine iz_iadd hx hb dL_law_855 ?_
  refine va_sld hx hb hSc hbl hbA hS (kz_in (n := L) (z := 6 * (k : Int) + 1) (by omega) (by omega) (by omega)) dL_law_856 ?_
  refine iz_any (fun z_o1 z_o1a z_o1b _ => ?_)
  refine lv_aload_n hx hb dL_law_857 rfl (lv_at hl 3 rfl) ?_
  refine lv_iload_n hx hb dL_law_858 rfl (lv_at hl 0 rfl) ?_
  refine lv_iconst (v := kz 2) hx hb dL_law_859 rfl ?_
  refine iz_iadd hx hb dL_law_860 ?_
  refine va_sld hx hb hSc hbl hbA hS (kz_in (n := L) (z := 6 * (k : Int) + 2) (by omega) (by omega) (by omega)) dL_law_861 ?_
  refine iz_any (fun z_o2 z_o2a z_o2b _ => ?_)
  refine va_calll (va_runV (As := [.int (kz z_o1), .int (kz z_o2)]) (rest := []) ⟨hx, hb, hml, hown, hts⟩ (j_treesZ l dC dI ca (lAx s.heap.size m0 n1) X hU H z9 229 20 36 (-1) 5 g_z (Or.inr rfl) (by decide) o t1 t2 t3 t4 t5 pv st z_o1 z_o2 g_o hAo g1 g2 g3 g4 g5 hpv hst ⟨z_o1a, z_o1b⟩ ⟨z_o2a, z_o2b⟩ (lA9 hM hS.1)) (cwV 2 hts gL_law_X11_trees rfl rfl rfl (by decide +kernel) ⟨Nat.le_of_ble_eq_true rfl, Nat.le_of_ble_eq_true rfl⟩) ⟨fun a U g mk q => by obtain ⟨q0, qH, ⟨qK, qN⟩, qI⟩ := q; exact ⟨q0, qH, ⟨va_K.moved (u := U) (U := U.calling g mk a) (Vm.Alike.refl U.vm) qK, jN_same (U := U.calling g mk a) rfl qN⟩, qI⟩, va_recv hKm (at_P hO) (ci := 11) (q0 := 0) rfl rfl, fun U hU9 hW => ⟨rfl, hU9, jK_warm hW hJ, by rw [hU9]; exact ⟨hI, hO⟩⟩⟩ rfl rfl hl.1 rfl (lv_room (Nat.le_of_ble_eq_true rfl)) dL_law_862 ⟨(by show _ + 41 ≤ 600000; omega), (by show _ + 9640 ≤ 7302250; omega)⟩) hS (fun q _ h => h.1) (fun q h => h.1) (fun r9 u t9 H1 locs1 ht hvm hw hQ hz1 hk1 hS1 => ?_)
  refine lv_pop2_2 hx hb dL_law_865 rfl ?_
  obtain ⟨-, hI1, hO1, hz9⟩ := hQ
  rw [ht] at hI1 hO1 hz9
  have c_z1 := c_z.kept hz9
  obtain ⟨hP, hw⟩ := hw
  rw [hw] at hO1
  have hX1 : lX (dC, dI) ca s.heap.size m0 n1 o z9 ff pv st H1 := lX_mk hP (by decide) hI1 g_o g1 g2 g3 g4 g5 (fun b9 e9 => prl_t hP (hpv b9 e9) (show (30 : Nat) ≠ 0 by decide)) hst hO1 ht9 (fun e9 => lF_prl (hF e9) hP) g_z c_z1
  exact law_m19 C kk hX1 (lM_kept hM hk1) hR hS1 hl ⟨by omega, by omega⟩
set_option maxHeartbeats 4000000 in
set_option maxRecDepth 100000 in
theorem law_m20 {p : Program} {l : Launch} {e : Env} {s : State} {m : MethodId} {below : List Frame} {meth : Method} {c : Code} {b L : Nat} {xs : Nat → Int32} {dC : Nat → ClassId} {dI : Nat → Nat → Nat} {ca : Nat → ClassId} {o m0 n1 z9 k : Nat} {ff fm : Nat → Int32} (C : lCx p s m meth c b L xs (dC, dI) ca o m0 n1 k) (kk : lKk p l e s m below meth c b (dC, dI) ca o m0 n1 z9 k) {pv : Option Nat} {st : Int} {H : Heap} {locs : List Loc} {ls : Array Slot} {cells slots : Nat} (hX : lX (dC, dI) ca s.heap.size m0 n1 o z9 ff pv st H) (hM : lM (dC, dI) ca m0 n1 fm H) (hR : lR ff fm) (hS : va_S (fun q : Nat => s.heap.size ≤ q) s.heap H locs) (hl : lv_has ls 4 [(3, .int (kz (6 * (k : Int)))), (2, .ref m0), (1, .ref o), (0, .ref b)]) (hB : bud (k + 1) pv cells slots) : W p l e room_1 s m #[Value.ref b] below meth c H locs cells slots (lw_Z below #[Value.ref b] s) (F0 m 894 ls []) := by
  obtain ⟨⟨hx, hb, hr, hml, hown, hts0, hSc, hbl, hlocks, hgv⟩, hL, hJ, hKm, hAo, hAm, hk⟩ := id C
  have hb : c.code = cL_law := hb
  have hown : s.vm.findClass RL = some m.cls := hown
  have hts : ∀ w ∈ wsL_law, w.before #[Value.ref b] s = true := fun w h => hts0 w (wsL_law_in w h)
  have hbA : ¬ (fun q : Nat => s.heap.size ≤ q) b := Nat.not_le.mpr hbl
  obtain ⟨hB1, hB2⟩ := hB
  obtain ⟨Xm, zi, zl, mS9, mZ9, ⟨mI9, mO9⟩, c_m⟩ := id hM
  refine lv_aload_n hx hb dL_law_894 rfl (lv_at hl 1 rfl) ?_
  refine lv_aload_n hx hb dL_law_895 rfl (lv_at hl 3 rfl) ?_
  refine lv_iload_n hx hb dL_law_896 rfl (lv_at hl 0 rfl) ?_
  refine lv_iconst (v := kz 1) hx hb dL_law_897 rfl ?_
  refine iz_iadd hx hb dL_law_898 ?_
  refine va_sld hx hb hSc hbl hbA hS (kz_in (n := L) (z := 6 * (k : Int) + 1) (by omega) (by omega) (by omega)) dL_law_899 ?_
  refine iz_any (fun z_m1 z_m1a z_m1b _ => ?_)
  refine va_calli (va_runV (As := [.int (kz z_m1)]) (rest := []) ⟨hx, hb, hml, hown, hts⟩ (m_chooseF l dC dI ca (lAm m0 n1) Xm m0 (mam n1) 18 (Or.inr rfl) zi zl mS9 mZ9 z_m1 ⟨z_m1a, z_m1b⟩) (cwV 1 hts gL_law_X12_choose rfl rfl rfl (by decide +kernel) ⟨Nat.le_of_ble_eq_true rfl, Nat.le_of_ble_eq_true rfl⟩) ⟨fun a U g mk q => by obtain ⟨q0, qK, qI⟩ := q; exact ⟨q0, va_K.moved (u := U) (U := U.calling g mk a) (Vm.Alike.refl U.vm) qK, qI⟩, va_recv hKm (at_P mO9) (ci := 12) (q0 := 0) rfl rfl, fun U hU9 hW => ⟨rfl, va_K.moved hW.alike hKm, by rw [hU9]; exact ⟨mI9, mO9⟩⟩⟩ rfl rfl hl.1 rfl (lv_room (Nat.le_of_ble_eq_true rfl)) dL_law_900 ⟨(by show _ + 0 ≤ 600000; omega), (by show _ + 0 ≤ 7302250; omega)⟩) hS (fun q _ h => hAm q h.1) (fun q h => hAm q h.1) (fun r9 u t9 H1 locs1 ht hvm hw hQ hz1 hk1 hS1 => ?_)
  refine lv_pop hx hb dL_law_903 rfl ?_
  refine lv_goto (tgt := 1022) hx hb dL_law_904 (by decide) ?_
  obtain ⟨-, mI1⟩ := hQ
  rw [ht] at mI1
  have hM1 : lM (dC, dI) ca m0 n1 fm H1 := ⟨Xm, u.1, u.2, mS9, hw.1, mI1, c_m.kept (hk1 _ c_m.lt (fun h9 => h9.2 rfl))⟩
  exact kk ff fm pv st H1 locs1 ls cells slots (lX_kept hX hAo (fun q h1 h2 => hk1 q h1 (fun h => h2 h.1))) hM1 hR hS1 hl ⟨hB1, hB2⟩
set_option maxHeartbeats 4000000 in
set_option maxRecDepth 100000 in
theorem law_c20 {p : Program} {l : Launch} {e : Env} {s : State} {m : MethodId} {below : List Frame} {meth : Method} {c : Code} {b L : Nat} {xs : Nat → Int32} {dC : Nat → ClassId} {dI : Nat → Nat → Nat} {ca : Nat → ClassId} {o m0 n1 z9 k : Nat} {ff fm : Nat → Int32} (C : lCx p s m meth c b L xs (dC, dI) ca o m0 n1 k) (kk : lKk p l e s m below meth c b (dC, dI) ca o m0 n1 z9 k) {pv : Option Nat} {st : Int} {H : Heap} {locs : List Loc} {ls : Array Slot} {cells slots : Nat} (hX : lX (dC, dI) ca s.heap.size m0 n1 o z9 ff pv st H) (hM : lM (dC, dI) ca m0 n1 fm H) (hR : lR ff fm) (hS : va_S (fun q : Nat => s.heap.size ≤ q) s.heap H locs) (hl : lv_has ls 4 [(3, .int (kz (6 * (k : Int)))), (2, .ref m0), (1, .ref o), (0, .ref b)]) (hB : bud k pv cells slots) : W p l e room_1 s m #[Value.ref b] below meth c H locs cells slots (lw_Z below #[Value.ref b] s) (F0 m 884 ls []) := by
  obtain ⟨⟨hx, hb, hr, hml, hown, hts0, hSc, hbl, hlocks, hgv⟩, hL, hJ, hKm, hAo, hAm, hk⟩ := id C
  have hb : c.code = cL_law := hb
  have hown : s.vm.findClass RL = some m.cls := hown
  have hts : ∀ w ∈ wsL_law, w.before #[Value.ref b] s = true := fun w h => hts0 w (wsL_law_in w h)
  have hbA : ¬ (fun q : Nat => s.heap.size ≤ q) b := Nat.not_le.mpr hbl
  obtain ⟨hB1, hB2⟩ := hB
  obtain ⟨X, t1, t2, t3, t4, t5, hU, hI, g_o, g1, g2, g3, g4, g5, hpv, hst, hO, ht9, hF, g_z, c_z⟩ := id hX
  refine lv_aload_n hx hb dL_law_884 rfl (lv_at hl 2 rfl) ?_
  refine lv_aload_n hx hb dL_law_885 rfl (lv_at hl 3 rfl) ?_
  refine lv_iload_n hx hb dL_law_886 rfl (lv_at hl 0 rfl) ?_
  refine lv_iconst (v := kz 1) hx hb dL_law_887 rfl ?_
  refine iz_iadd hx hb dL_law_888 ?_
  refine va_sld hx hb hSc hbl hbA hS (kz_in (n := L) (z := 6 * (k : Int) + 1) (by omega) (by omega) (by omega)) dL_law_889 ?_
  refine iz_any (fun z_o1 z_o1a z_o1b _ => ?_)
  refine va_calli (va_runV (As := [.int (kz z_o1)]) (rest := []) ⟨hx, hb, hml, hown, hts⟩ (j_chooseZ l dC dI ca (lAx s.heap.size m0 n1) X hU H z9 229 20 36 (-1) 5 g_z (Or.inr rfl) (by decide) o t1 t2 t3 t4 t5 pv st z_o1 g_o hAo g1 g2 g3 g4 g5 hpv hst ⟨z_o1a, z_o1b⟩) (cwV 1 hts gL_law_X11_choose rfl rfl rfl (by decide +kernel) ⟨Nat.le_of_ble_eq_true rfl, Nat.le_of_ble_eq_true rfl⟩) ⟨fun a U g mk q => by obtain ⟨q0, qH, ⟨qK, qN⟩, qI⟩ := q; exact ⟨q0, qH, ⟨va_K.moved (u := U) (U := U.calling g mk a) (Vm.Alike.refl U.vm) qK, jN_same (U := U.calling g mk a) rfl qN⟩, qI⟩, va_recv hKm (at_P hO) (ci := 11) (q0 := 0) rfl rfl, fun U hU9 hW => ⟨rfl, hU9, jK_warm hW hJ, by rw [hU9]; exact ⟨hI, hO⟩⟩⟩ rfl rfl hl.1 rfl (lv_room (Nat.le_of_ble_eq_true rfl)) dL_law_890 ⟨(by show _ + 0 ≤ 600000; omega), (by show _ + 0 ≤ 7302250; omega)⟩) hS (fun q _ h => h.1) (fun q h => h.1) (fun r9 u t9 H1 locs1 ht hvm hw hQ hz1 hk1 hS1 => ?_)
  refine lv_pop hx hb dL_law_893 rfl ?_
  obtain ⟨-, hI1, hO1, hz9⟩ := hQ
  rw [ht] at hI1 hO1 hz9
  have c_z1 := c_z.kept hz9
  rw [hw] at hO1
  have hX1 : lX (dC, dI) ca s.heap.size m0 n1 o z9 ff pv st H1 := ⟨X, t1, t2, t3, t4, t5, hU, hI1, g_o, g1, g2, g3, g4, g5, hpv, hst, hO1, ht9, hF, g_z, c_z1⟩
  exact law_m20 C kk hX1 (lM_kept hM hk1) hR hS1 hl ⟨by omega, by omega⟩
set_option maxHeartbeats 4000000 in
set_option maxRecDepth 100000 in
theorem law_m21 {p : Program} {l : Launch} {e : Env} {s : State} {m : MethodId} {below : List Frame} {meth : Method} {c : Code} {b L : Nat} {xs : Nat → Int32} {dC : Nat → ClassId} {dI : Nat → Nat → Nat} {ca : Nat → ClassId} {o m0 n1 z9 k : Nat} {ff fm : Nat → Int32} (C : lCx p s m meth c b L xs (dC, dI) ca o m0 n1 k) (kk : lKk p l e s m below meth c b (dC, dI) ca o m0 n1 z9 k) {pv : Option Nat} {st : Int} {H : Heap} {locs : List Loc} {ls : Array Slot} {cells slots : Nat} (hX : lX (dC, dI) ca s.heap.size m0 n1 o z9 ff pv st H) (hM : lM (dC, dI) ca m0 n1 fm H) (hR : lR ff fm) (hS : va_S (fun q : Nat => s.heap.size ≤ q) s.heap H locs) (hl : lv_has ls 4 [(3, .int (kz (6 * (k : Int)))), (2, .ref m0), (1, .ref o), (0, .ref b)]) (hB : bud (k + 1) pv cells slots) : W p l e room_1 s m #[Value.ref b] below meth c H locs cells slots (lw_Z below #[Value.ref b] s) (F0 m 912 ls []) := by
  obtain ⟨⟨hx, hb, hr, hml, hown, hts0, hSc, hbl, hlocks, hgv⟩, hL, hJ, hKm, hAo, hAm, hk⟩ := id C
  have hb : c.code = cL_law := hb
  have hown : s.vm.findClass RL = some m.cls := hown
  have hts : ∀ w ∈ wsL_law, w.before #[Value.ref b] s = true := fun w h => hts0 w (wsL_law_in w h)
  have hbA : ¬ (fun q : Nat => s.heap.size ≤ q) b := Nat.not_le.mpr hbl
  obtain ⟨hB1, hB2⟩ := hB
  obtain ⟨Xm, zi, zl, mS9, mZ9, ⟨mI9, mO9⟩, c_m⟩ := id hM
  refine lv_aload_n hx hb dL_law_912 rfl (lv_at hl 1 rfl) ?_
  refine va_calli (va_runV (As := []) (rest := []) ⟨hx, hb, hml, hown, hts⟩ (m_undoF l dC dI ca (lAm m0 n1) Xm m0 (mam n1) 18 (Or.inr rfl) zi zl mS9 mZ9) (cwV 0 hts gL_law_X12_undo rfl rfl rfl (by decide +kernel) ⟨Nat.le_of_ble_eq_true rfl, Nat.le_of_ble_eq_true rfl⟩) ⟨fun a U g mk q => by obtain ⟨q0, qK, qI⟩ := q; exact ⟨q0, va_K.moved (u := U) (U := U.calling g mk a) (Vm.Alike.refl U.vm) qK, qI⟩, va_recv hKm (at_P mO9) (ci := 12) (q0 := 0) rfl rfl, fun U hU9 hW => ⟨rfl, va_K.moved hW.alike hKm, by rw [hU9]; exact ⟨mI9, mO9⟩⟩⟩ rfl rfl hl.1 rfl (lv_room (Nat.le_of_ble_eq_true rfl)) dL_law_913 ⟨(by show _ + 0 ≤ 600000; omega), (by show _ + 0 ≤ 7302250; omega)⟩) hS (fun q _ h => hAm q h.1) (fun q h => hAm q h.1) (fun r9 u t9 H1 locs1 ht hvm hw hQ hz1 hk1 hS1 => ?_)
  refine lv_pop hx hb dL_law_916 rfl ?_
  refine lv_goto (tgt := 1022) hx hb dL_law_917 (by decide) ?_
  obtain ⟨-, mI1⟩ := hQ
  rw [ht] at mI1
  have hM1 : lM (dC, dI) ca m0 n1 fm H1 := ⟨Xm, u.1, u.2, mS9, hw.1, mI1, c_m.kept (hk1 _ c_m.lt (fun h9 => h9.2 rfl))⟩
  exact kk ff fm pv st H1 locs1 ls cells slots (lX_kept hX hAo (fun q h1 h2 => hk1 q h1 (fun h => h2 h.1))) hM1 hR hS1 hl ⟨hB1, hB2⟩
set_option maxHeartbeats 4000000 in
set_option maxRecDepth 100000 in
theorem law_c21 {p : Program} {l : Launch} {e : Env} {s : State} {m : MethodId} {below : List Frame} {meth : Method} {c : Code} {b L : Nat} {xs : Nat → Int32} {dC : Nat → ClassId} {dI : Nat → Nat → Nat} {ca : Nat → ClassId} {o m0 n1 z9 k : Nat} {ff fm : Nat → Int32} (C : lCx p s m meth c b L xs (dC, dI) ca o m0 n1 k) (kk : lKk p l e s m below meth c b (dC, dI) ca o m0 n1 z9 k) {pv : Option Nat} {st : Int} {H : Heap} {locs : List Loc} {ls : Array Slot} {cells slots : Nat} (hX : lX (dC, dI) ca s.heap.size m0 n1 o z9 ff pv st H) (hM : lM (dC, dI) ca m0 n1 fm H) (hR : lR ff fm) (hS : va_S (fun q : Nat => s.heap.size ≤ q) s.heap H locs) (hl : lv_has ls 4 [(3, .int (kz (6 * (k : Int)))), (2, .ref m0), (1, .ref o), (0, .ref b)]) (hB : bud k pv cells slots) : W p l e room_1 s m #[Value.ref b] below meth c H locs cells slots (lw_Z below #[Value.ref b] s) (F0 m 907 ls []) := by
  obtain ⟨⟨hx, hb, hr, hml, hown, hts0, hSc, hbl, hlocks, hgv⟩, hL, hJ, hKm, hAo, hAm, hk⟩ := id C
  have hb : c.code = cL_law := hb
  have hown : s.vm.findClass RL = some m.cls := hown
  have hts : ∀ w ∈ wsL_law, w.before #[Value.ref b] s = true := fun w h => hts0 w (wsL_law_in w h)
  have hbA : ¬ (fun q : Nat => s.heap.size ≤ q) b := Nat.not_le.mpr hbl
  obtain ⟨hB1, hB2⟩ := hB
  obtain ⟨X, t1, t2, t3, t4, t5, hU, hI, g_o, g1, g2, g3, g4, g5, hpv, hst, hO, ht9, hF, g_z, c_z⟩ := id hX
  refine lv_aload_n hx hb dL_law_907 rfl (lv_at hl 2 rfl) ?_
  refine va_calli (va_runV (As := []) (rest := []) ⟨hx, hb, hml, hown, hts⟩ (j_undoZ l dC dI ca (lAx s.heap.size m0 n1) X hU H z9 229 20 36 (-1) 5 g_z (Or.inr rfl) (by decide) o t1 t2 t3 t4 t5 pv st g_o hAo g1 g2 g3 g4 g5 hpv hst) (cwV 0 hts gL_law_X11_undo rfl rfl rfl (by decide +kernel) ⟨Nat.le_of_ble_eq_true rfl, Nat.le_of_ble_eq_true rfl⟩) ⟨fun a U g mk q => by obtain ⟨q0, qH, ⟨qK, qN⟩, qI⟩ := q; exact ⟨q0, qH, ⟨va_K.moved (u := U) (U := U.calling g mk a) (Vm.Alike.refl U.vm) qK, jN_same (U := U.calling g mk a) rfl qN⟩, qI⟩, va_recv hKm (at_P hO) (ci := 11) (q0 := 0) rfl rfl, fun U hU9 hW => ⟨rfl, hU9, jK_warm hW hJ, by rw [hU9]; exact ⟨hI, hO⟩⟩⟩ rfl rfl hl.1 rfl (lv_room (Nat.le_of_ble_eq_true rfl)) dL_law_908 ⟨(by show _ + 0 ≤ 600000; omega), (by show _ + 0 ≤ 7302250; omega)⟩) hS (fun q _ h => h.1) (fun q h => h.1) (fun r9 u t9 H1 locs1 ht hvm hw hQ hz1 hk1 hS1 => ?_)
  refine lv_pop hx hb dL_law_911 rfl ?_
  obtain ⟨-, hI1, hO1, hz9⟩ := hQ
  rw [ht] at hI1 hO1 hz9
  have c_z1 := c_z.kept hz9
  rw [hw] at hO1
  have hX1 : lX (dC, dI) ca s.heap.size m0 n1 o z9 ff pv st H1 := ⟨X, t1, t2, t3, t4, t5, hU, hI1, g_o, g1, g2, g3, g4, g5, hpv, hst, hO1, ht9, hF, g_z, c_z1⟩
  exact law_m21 C kk hX1 (lM_kept hM hk1) hR hS1 hl ⟨by omega, by omega⟩
set_option maxHeartbeats 4000000 in
set_option maxRecDepth 100000 in
theorem law_m22 {p : Program} {l : Launch} {e : Env} {s : State} {m : MethodId} {below : List Frame} {meth : Method} {c : Code} {b L : Nat} {xs : Nat → Int32} {dC : Nat → ClassId} {dI : Nat → Nat → Nat} {ca : Nat → ClassId} {o m0 n1 z9 k : Nat} {ff fm : Nat → Int32} (C : lCx p s m meth c b L xs (dC, dI) ca o m0 n1 k) (kk : lKk p l e s m below meth c b (dC, dI) ca o m0 n1 z9 k) {pv : Option Nat} {st : Int} {H : Heap} {locs : List Loc} {ls : Array Slot} {cells slots : Nat} (hX : lX (dC, dI) ca s.heap.size m0 n1 o z9 ff pv st H) (hM : lM (dC, dI) ca m0 n1 fm H) (hR : lR ff fm) (hS : va_S (fun q : Nat => s.heap.size ≤ q) s.heap H locs) (hl : lv_has ls 4 [(3, .int (kz (6 * (k : Int)))), (2, .ref m0), (1, .ref o), (0, .ref b)]) (hB : bud (k + 1) pv cells slots) : W p l e room_1 s m #[Value.ref b] below meth c H locs cells slots (lw_Z below #[Value.ref b] s) (F0 m 930 ls []) := by
  obtain ⟨⟨hx, hb, hr, hml, hown, hts0, hSc, hbl, hlocks, hgv⟩, hL, hJ, hKm, hAo, hAm, hk⟩ := id C
  have hb : c.code = cL_law := hb
  have hown : s.vm.findClass RL = some m.cls := hown
  have hts : ∀ w ∈ wsL_law, w.before #[Value.ref b] s = true := fun w h => hts0 w (wsL_law_in w h)
  have hbA : ¬ (fun q : Nat => s.heap.size ≤ q) b := Nat.not_le.mpr hbl
  obtain ⟨hB1, hB2⟩ := hB
  obtain ⟨Xm, zi, zl, mS9, mZ9, ⟨mI9, mO9⟩, c_m⟩ := id hM
  refine lv_aload_n hx hb dL_law_930 rfl (lv_at hl 1 rfl) ?_
  refine lv_aload_n hx hb dL_law_931 rfl (lv_at hl 3 rfl) ?_
  refine lv_iload_n hx hb dL_law_932 rfl (lv_at hl 0 rfl) ?_
  refine lv_iconst (v := kz 1) hx hb dL_law_933 rfl ?_
  refine iz_iadd hx hb dL_law_934 ?_
  refine va_sld hx hb hSc hbl hbA hS (kz_in (n := L) (z := 6 * (k : Int) + 1) (by omega) (by omega) (by omega)) dL_law_935 ?_
  refine iz_any (fun z_m1 z_m1a z_m1b _ => ?_)
  refine va_calli (va_runV (As := [.int (kz z_m1)]) (rest := []) ⟨hx, hb, hml, hown, hts⟩ (m_stepF l dC dI ca (lAm m0 n1) Xm m0 (mam n1) 18 (Or.inr rfl) zi zl mS9 mZ9 z_m1 ⟨z_m1a, z_m1b⟩) (cwV 1 hts gL_law_X12_step rfl rfl rfl (by decide +kernel) ⟨Nat.le_of_ble_eq_true rfl, Nat.le_of_ble_eq_true rfl⟩) ⟨fun a U g mk q => by obtain ⟨q0, qK, qI⟩ := q; exact ⟨q0, va_K.moved (u := U) (U := U.calling g mk a) (Vm.Alike.refl U.vm) qK, qI⟩, va_recv hKm (at_P mO9) (ci := 12) (q0 := 0) rfl rfl, fun U hU9 hW => ⟨rfl, va_K.moved hW.alike hKm, by rw [hU9]; exact ⟨mI9, mO9⟩⟩⟩ rfl rfl hl.1 rfl (lv_room (Nat.le_of_ble_eq_true rfl)) dL_law_936 ⟨(by show _ + 0 ≤ 600000; omega), (by show _ + 0 ≤ 7302250; omega)⟩) hS (fun q _ h => hAm q h.1) (fun q h => hAm q h.1) (fun r9 u t9 H1 locs1 ht hvm hw hQ hz1 hk1 hS1 => ?_)
  refine lv_pop hx hb dL_law_939 rfl ?_
  refine lv_goto (tgt := 1022) hx hb dL_law_940 (by decide) ?_
  obtain ⟨-, mI1⟩ := hQ
  rw [ht] at mI1
  have hM1 : lM (dC, dI) ca m0 n1 fm H1 := ⟨Xm, u.1, u.2, mS9, hw.1, mI1, c_m.kept (hk1 _ c_m.lt (fun h9 => h9.2 rfl))⟩
  exact kk ff fm pv st H1 locs1 ls cells slots (lX_kept hX hAo (fun q h1 h2 => hk1 q h1 (fun h => h2 h.1))) hM1 hR hS1 hl ⟨hB1, hB2⟩
set_option maxHeartbeats 4000000 in
set_option maxRecDepth 100000 in
theorem law_c22 {p : Program} {l : Launch} {e : Env} {s : State} {m : MethodId} {below : List Frame} {meth : Method} {c : Code} {b L : Nat} {xs : Nat → Int32} {dC : Nat → ClassId} {dI : Nat → Nat → Nat} {ca : Nat → ClassId} {o m0 n1 z9 k : Nat} {ff fm : Nat → Int32} (C : lCx p s m meth c b L xs (dC, dI) ca o m0 n1 k) (kk : lKk p l e s m below meth c b (dC, dI) ca o m0 n1 z9 k) {pv : Option Nat} {st : Int} {H : Heap} {locs : List Loc} {ls : Array Slot} {cells slots : Nat} (hX : lX (dC, dI) ca s.heap.size m0 n1 o z9 ff pv st H) (hM : lM (dC, dI) ca m0 n1 fm H) (hR : lR ff fm) (hS : va_S (fun q : Nat => s.heap.size ≤ q) s.heap H locs) (hl : lv_has ls 4 [(3, .int (kz (6 * (k : Int)))), (2, .ref m0), (1, .ref o), (0, .ref b)]) (hB : bud k pv cells slots) : W p l e room_1 s m #[Value.ref b] below meth c H locs cells slots (lw_Z below #[Value.ref b] s) (F0 m 920 ls []) := by
  obtain ⟨⟨hx, hb, hr, hml, hown, hts0, hSc, hbl, hlocks, hgv⟩, hL, hJ, hKm, hAo, hAm, hk⟩ := id C
  have hb : c.code = cL_law := hb
  have hown : s.vm.findClass RL = some m.cls := hown
  have hts : ∀ w ∈ wsL_law, w.before #[Value.ref b] s = true := fun w h => hts0 w (wsL_law_in w h)
  have hbA : ¬ (fun q : Nat => s.heap.size ≤ q) b := Nat.not_le.mpr hbl
  obtain ⟨hB1, hB2⟩ := hB
  obtain ⟨X, t1, t2, t3, t4, t5, hU, hI, g_o, g1, g2, g3, g4, g5, hpv, hst, hO, ht9, hF, g_z, c_z⟩ := id hX
  refine lv_aload_n hx hb dL_law_920 rfl (lv_at hl 2 rfl) ?_
  refine lv_aload_n hx hb dL_law_921 rfl (lv_at hl 3 rfl) ?_
  refine lv_iload_n hx hb dL_law_922 rfl (lv_at hl 0 rfl) ?_
  refine lv_iconst (v := kz 1) hx hb dL_law_923 rfl ?_
  refine iz_iadd hx hb dL_law_924 ?_
  refine va_sld hx hb hSc hbl hbA hS (kz_in (n := L) (z := 6 * (k : Int) + 1) (by omega) (by omega) (by omega)) dL_law_925 ?_
  refine iz_any (fun z_o1 z_o1a z_o1b _ => ?_)
  refine va_calli (va_runV (As := [.int (kz z_o1)]) (rest := []) ⟨hx, hb, hml, hown, hts⟩ (j_stepZ l dC dI ca (lAx s.heap.size m0 n1) X hU H z9 229 20 36 (-1) 5 g_z (Or.inr rfl) (by decide) o t1 t2 t3 t4 t5 pv st z_o1 g_o hAo g1 g2 g3 g4 g5 hpv hst ⟨z_o1a, z_o1b⟩) (cwV 1 hts gL_law_X11_step rfl rfl rfl (by decide +kernel) ⟨Nat.le_of_ble_eq_true rfl, Nat.le_of_ble_eq_true rfl⟩) ⟨fun a U g mk q => by obtain ⟨q0, qH, ⟨qK, qN⟩, qI⟩ := q; exact ⟨q0, qH, ⟨va_K.moved (u := U) (U := U.calling g mk a) (Vm.Alike.refl U.vm) qK, jN_same (U := U.calling g mk a) rfl qN⟩, qI⟩, va_recv hKm (at_P hO) (ci := 11) (q0 := 0) rfl rfl, fun U hU9 hW => ⟨rfl, hU9, jK_warm hW hJ, by rw [hU9]; exact ⟨hI, hO⟩⟩⟩ rfl rfl hl.1 rfl (lv_room (Nat.le_of_ble_eq_true rfl)) dL_law_926 ⟨(by show _ + 0 ≤ 600000; omega), (by show _ + 0 ≤ 7302250; omega)⟩) hS (fun q _ h => h.1) (fun q h => h.1) (fun r9 u t9 H1 locs1 ht hvm hw hQ hz1 hk1 hS1 => ?_)
  refine lv_pop hx hb dL_law_929 rfl ?_
  obtain ⟨-, hI1, hO1, hz9⟩ := hQ
  rw [ht] at hI1 hO1 hz9
  have c_z1 := c_z.kept hz9
  have hu : 0 ≤ u ∧ u ≤ 20 := by rcases hw with ⟨h1, -, h2⟩ | ⟨-, -, h2⟩ <;> omega
  have hX1 : lX (dC, dI) ca s.heap.size m0 n1 o z9 ff pv u H1 := ⟨X, t1, t2, t3, t4, t5, hU, hI1, g_o, g1, g2, g3, g4, g5, hpv, hu, hO1, ht9, hF, g_z, c_z1⟩
  exact law_m22 C kk hX1 (lM_kept hM hk1) hR hS1 hl ⟨by omega, by omega⟩
set_option maxHeartbeats 4000000 in
set_option maxRecDepth 100000 in
theorem law_m23 {p : Program} {l : Launch} {e : Env} {s : State} {m : MethodId} {below : List Frame} {meth : Method} {c : Code} {b L : Nat} {xs : Nat → Int32} {dC : Nat → ClassId} {dI : Nat → Nat → Nat} {ca : Nat → ClassId} {o m0 n1 z9 k : Nat} {ff fm : Nat → Int32} (C : lCx p s m meth c b L xs (dC, dI) ca o m0 n1 k) (kk : lKk p l e s m below meth c b (dC, dI) ca o m0 n1 z9 k) {pv : Option Nat} {st : Int} {H : Heap} {locs : List Loc} {ls : Array Slot} {cells slots : Nat} (hX : lX (dC, dI) ca s.heap.size m0 n1 o z9 ff pv st H) (hM : lM (dC, dI) ca m0 n1 fm H) (hR : lR ff fm) (hS : va_S (fun q : Nat => s.heap.size ≤ q) s.heap H locs) (hl : lv_has ls 4 [(3, .int (kz (6 * (k : Int)))), (2, .ref m0), (1, .ref o), (0, .ref b)]) (hB : bud (k + 1) pv cells slots) : W p l e room_1 s m #[Value.ref b] below meth c H locs cells slots (lw_Z below #[Value.ref b] s) (F0 m 953 ls []) := by
  obtain ⟨⟨hx, hb, hr, hml, hown, hts0, hSc, hbl, hlocks, hgv⟩, hL, hJ, hKm, hAo, hAm, hk⟩ := id C
  have hb : c.code = cL_law := hb
  have hown : s.vm.findClass RL = some m.cls := hown
  have hts : ∀ w ∈ wsL_law, w.before #[Value.ref b] s = true := fun w h => hts0 w (wsL_law_in w h)
  have hbA : ¬ (fun q : Nat => s.heap.size ≤ q) b := Nat.not_le.mpr hbl
  obtain ⟨hB1, hB2⟩ := hB
  obtain ⟨Xm, zi, zl, mS9, mZ9, ⟨mI9, mO9⟩, c_m⟩ := id hM
  refine lv_aload_n hx hb dL_law_953 rfl (lv_at hl 1 rfl) ?_
  refine lv_aload_n hx hb dL_law_954 rfl (lv_at hl 3 rfl) ?_
  refine lv_iload_n hx hb dL_law_955 rfl (lv_at hl 0 rfl) ?_
  refine lv_iconst (v := kz 1) hx hb dL_law_956 rfl ?_
  refine iz_iadd hx hb dL_law_957 ?_
  refine va_sld hx hb hSc hbl hbA hS (kz_in (n := L) (z := 6 * (k : Int) + 1) (by omega) (by omega) (by omega)) dL_law_958 ?_
  refine iz_any (fun z_m1 z_m1a z_m1b _ => ?_)
  refine vp_callSi (va_Run.run (va_runV (As := [.int (kz z_m1)]) (rest := []) ⟨hx, hb, hml, hown, hts⟩ (m_uses l dC dI ca (lAm m0 n1) Xm m0 (mam n1) zi zl mS9 mZ9 z_m1 ⟨z_m1a, z_m1b⟩) (cwV 1 hts gL_law_X12_uses rfl rfl rfl (by decide +kernel) ⟨Nat.le_of_ble_eq_true rfl, Nat.le_of_ble_eq_true rfl⟩) ⟨fun a U g mk q => by obtain ⟨q0, qK, qI⟩ := q; exact ⟨q0, va_K.moved (u := U) (U := U.calling g mk a) (Vm.Alike.refl U.vm) qK, qI⟩, va_recv hKm (at_P mO9) (ci := 12) (q0 := 0) rfl rfl, fun U hU9 hW => ⟨rfl, va_K.moved hW.alike hKm, by rw [hU9]; exact ⟨mI9, mO9⟩⟩⟩ rfl rfl hl.1 rfl (lv_room (Nat.le_of_ble_eq_true rfl)) dL_law_959 ⟨(by show _ + 0 ≤ 600000; omega), (by show _ + 0 ≤ 7302250; omega)⟩)) (fun r9 _ => ?_)
  refine lv_pop hx hb dL_law_962 rfl ?_
  refine lv_goto (tgt := 1022) hx hb dL_law_963 (by decide) ?_
  exact kk ff fm pv st H locs ls cells slots hX hM hR hS hl ⟨hB1, hB2⟩
set_option maxHeartbeats 4000000 in
set_option maxRecDepth 100000 in
theorem law_c23 {p : Program} {l : Launch} {e : Env} {s : State} {m : MethodId} {below : List Frame} {meth : Method} {c : Code} {b L : Nat} {xs : Nat → Int32} {dC : Nat → ClassId} {dI : Nat → Nat → Nat} {ca : Nat → ClassId} {o m0 n1 z9 k : Nat} {ff fm : Nat → Int32} (C : lCx p s m meth c b L xs (dC, dI) ca o m0 n1 k) (kk : lKk p l e s m below meth c b (dC, dI) ca o m0 n1 z9 k) {pv : Option Nat} {st : Int} {H : Heap} {locs : List Loc} {ls : Array Slot} {cells slots : Nat} (hX : lX (dC, dI) ca s.heap.size m0 n1 o z9 ff pv st H) (hM : lM (dC, dI) ca m0 n1 fm H) (hR : lR ff fm) (hS : va_S (fun q : Nat => s.heap.size ≤ q) s.heap H locs) (hl : lv_has ls 4 [(3, .int (kz (6 * (k : Int)))), (2, .ref m0), (1, .ref o), (0, .ref b)]) (hB : bud k pv cells slots) : W p l e room_1 s m #[Value.ref b] below meth c H locs cells slots (lw_Z below #[Value.ref b] s) (F0 m 943 ls []) := by
  obtain ⟨⟨hx, hb, hr, hml, hown, hts0, hSc, hbl, hlocks, hgv⟩, hL, hJ, hKm, hAo, hAm, hk⟩ := id C
  have hb : c.code = cL_law := hb
  have hown : s.vm.findClass RL = some m.cls := hown
  have hts : ∀ w ∈ wsL_law, w.before #[Value.ref b] s = true := fun w h => hts0 w (wsL_law_in w h)
  have hbA : ¬ (fun q : Nat => s.heap.size ≤ q) b := Nat.not_le.mpr hbl
  obtain ⟨hB1, hB2⟩ := hB
  obtain ⟨X, t1, t2, t3, t4, t5, hU, hI, g_o, g1, g2, g3, g4, g5, hpv, hst, hO, ht9, hF, g_z, c_z⟩ := id hX
  refine lv_aload_n hx hb dL_law_943 rfl (lv_at hl 2 rfl) ?_
  refine lv_aload_n hx hb dL_law_944 rfl (lv_at hl 3 rfl) ?_
  refine lv_iload_n hx hb dL_law_945 rfl (lv_at hl 0 rfl) ?_
  refine lv_iconst (v := kz 1) hx hb dL_law_946 rfl ?_
  refine iz_iadd hx hb dL_law_947 ?_
  refine va_sld hx hb hSc hbl hbA hS (kz_in (n := L) (z := 6 * (k : Int) + 1) (by omega) (by omega) (by omega)) dL_law_948 ?_
  refine iz_any (fun z_o1 z_o1a z_o1b _ => ?_)
  refine vp_callSi (va_Run.run (va_runV (As := [.int (kz z_o1)]) (rest := []) ⟨hx, hb, hml, hown, hts⟩ (j_uses l dC dI ca (lAx s.heap.size m0 n1) X hU o t1 t2 t3 t4 t5 pv st z_o1 g_o hAo g1 g2 g3 g4 g5 hpv hst ⟨z_o1a, z_o1b⟩) (cwV 1 hts gL_law_X11_uses rfl rfl rfl (by decide +kernel) ⟨Nat.le_of_ble_eq_true rfl, Nat.le_of_ble_eq_true rfl⟩) ⟨fun a U g mk q => by obtain ⟨q0, ⟨qK, qN⟩, qI⟩ := q; exact ⟨q0, ⟨va_K.moved (u := U) (U := U.calling g mk a) (Vm.Alike.refl U.vm) qK, jN_same (U := U.calling g mk a) rfl qN⟩, qI⟩, va_recv hKm (at_P hO) (ci := 11) (q0 := 0) rfl rfl, fun U hU9 hW => ⟨rfl, jK_warm hW hJ, by rw [hU9]; exact ⟨hI, hO⟩⟩⟩ rfl rfl hl.1 rfl (lv_room (Nat.le_of_ble_eq_true rfl)) dL_law_949 ⟨(by show _ + 0 ≤ 600000; omega), (by show _ + 0 ≤ 7302250; omega)⟩)) (fun r9 _ => ?_)
  refine lv_pop hx hb dL_law_952 rfl ?_
  exact law_m23 C kk hX hM hR hS hl ⟨by omega, by omega⟩
set_option maxHeartbeats 4000000 in
set_option maxRecDepth 100000 in
theorem law_m24 {p : Program} {l : Launch} {e : Env} {s : State} {m : MethodId} {below : List Frame} {meth : Method} {c : Code} {b L : Nat} {xs : Nat → Int32} {dC : Nat → ClassId} {dI : Nat → Nat → Nat} {ca : Nat → ClassId} {o m0 n1 z9 k : Nat} {ff fm : Nat → Int32} (C : lCx p s m meth c b L xs (dC, dI) ca o m0 n1 k) (kk : lKk p l e s m below meth c b (dC, dI) ca o m0 n1 z9 k) {pv : Option Nat} {st : Int} {H : Heap} {locs : List Loc} {ls : Array Slot} {cells slots : Nat} (hX : lX (dC, dI) ca s.heap.size m0 n1 o z9 ff pv st H) (hM : lM (dC, dI) ca m0 n1 fm H) (hR : lR ff fm) (hS : va_S (fun q : Nat => s.heap.size ≤ q) s.heap H locs) (hl : lv_has ls 4 [(3, .int (kz (6 * (k : Int)))), (2, .ref m0), (1, .ref o), (0, .ref b)]) (hB : bud (k + 1) pv cells slots) : W p l e room_1 s m #[Value.ref b] below meth c H locs cells slots (lw_Z below #[Value.ref b] s) (F0 m 981 ls []) := by
  obtain ⟨⟨hx, hb, hr, hml, hown, hts0, hSc, hbl, hlocks, hgv⟩, hL, hJ, hKm, hAo, hAm, hk⟩ := id C
  have hb : c.code = cL_law := hb
  have hown : s.vm.findClass RL = some m.cls := hown
  have hts : ∀ w ∈ wsL_law, w.before #[Value.ref b] s = true := fun w h => hts0 w (wsL_law_in w h)
  have hbA : ¬ (fun q : Nat => s.heap.size ≤ q) b := Nat.not_le.mpr hbl
  obtain ⟨hB1, hB2⟩ := hB
  obtain ⟨Xm, zi, zl, mS9, mZ9, ⟨mI9, mO9⟩, c_m⟩ := id hM
  refine lv_aload_n hx hb dL_law_981 rfl (lv_at hl 1 rfl) ?_
  refine lv_aload_n hx hb dL_law_982 rfl (lv_at hl 3 rfl) ?_
  refine lv_iload_n hx hb dL_law_983 rfl (lv_at hl 0 rfl) ?_
  refine lv_iconst (v := kz 1) hx hb dL_law_984 rfl ?_
  refine iz_iadd hx hb dL_law_985 ?_
  refine va_sld hx hb hSc hbl hbA hS (kz_in (n := L) (z := 6 * (k : Int) + 1) (by omega) (by omega) (by omega)) dL_law_986 ?_
  refine iz_any (fun z_m1 z_m1a z_m1b _ => ?_)
  refine lv_aload_n hx hb dL_law_987 rfl (lv_at hl 3 rfl) ?_
  refine lv_iload_n hx hb dL_law_988 rfl (lv_at hl 0 rfl) ?_
  refine lv_iconst (v := kz 2) hx hb dL_law_989 rfl ?_
  refine iz_iadd hx hb dL_law_990 ?_
  refine va_sld hx hb hSc hbl hbA hS (kz_in (n := L) (z := 6 * (k : Int) + 2) (by omega) (by omega) (by omega)) dL_law_991 ?_
  refine iz_any (fun z_m2 z_m2a z_m2b _ => ?_)
  refine vp_callSi (va_Run.run (va_runV (As := [.int (kz z_m1), .int (kz z_m2)]) (rest := []) ⟨hx, hb, hml, hown, hts⟩ (m_about l dC dI ca (lAm m0 n1) Xm m0 (mam n1) zi zl mS9 mZ9 z_m1 z_m2 ⟨z_m1a, z_m1b⟩ ⟨z_m2a, z_m2b⟩) (cwV 2 hts gL_law_X12_about rfl rfl rfl (by decide +kernel) ⟨Nat.le_of_ble_eq_true rfl, Nat.le_of_ble_eq_true rfl⟩) ⟨fun a U g mk q => by obtain ⟨q0, qK, qI⟩ := q; exact ⟨q0, va_K.moved (u := U) (U := U.calling g mk a) (Vm.Alike.refl U.vm) qK, qI⟩, va_recv hKm (at_P mO9) (ci := 12) (q0 := 0) rfl rfl, fun U hU9 hW => ⟨rfl, va_K.moved hW.alike hKm, by rw [hU9]; exact ⟨mI9, mO9⟩⟩⟩ rfl rfl hl.1 rfl (lv_room (Nat.le_of_ble_eq_true rfl)) dL_law_992 ⟨(by show _ + 0 ≤ 600000; omega), (by show _ + 0 ≤ 7302250; omega)⟩)) (fun r9 _ => ?_)
  refine lv_pop hx hb dL_law_995 rfl ?_
  refine lv_goto (tgt := 1022) hx hb dL_law_996 (by decide) ?_
  exact kk ff fm pv st H locs ls cells slots hX hM hR hS hl ⟨hB1, hB2⟩
set_option maxHeartbeats 4000000 in
set_option maxRecDepth 100000 in
theorem law_c24 {p : Program} {l : Launch} {e : Env} {s : State} {m : MethodId} {below : List Frame} {meth : Method} {c : Code} {b L : Nat} {xs : Nat → Int32} {dC : Nat → ClassId} {dI : Nat → Nat → Nat} {ca : Nat → ClassId} {o m0 n1 z9 k : Nat} {ff fm : Nat → Int32} (C : lCx p s m meth c b L xs (dC, dI) ca o m0 n1 k) (kk : lKk p l e s m below meth c b (dC, dI) ca o m0 n1 z9 k) {pv : Option Nat} {st : Int} {H : Heap} {locs : List Loc} {ls : Array Slot} {cells slots : Nat} (hX : lX (dC, dI) ca s.heap.size m0 n1 o z9 ff pv st H) (hM : lM (dC, dI) ca m0 n1 fm H) (hR : lR ff fm) (hS : va_S (fun q : Nat => s.heap.size ≤ q) s.heap H locs) (hl : lv_has ls 4 [(3, .int (kz (6 * (k : Int)))), (2, .ref m0), (1, .ref o), (0, .ref b)]) (hB : bud k pv cells slots) : W p l e room_1 s m #[Value.ref b] below meth c H locs cells slots (lw_Z below #[Value.ref b] s) (F0 m 966 ls []) := by
  obtain ⟨⟨hx, hb, hr, hml, hown, hts0, hSc, hbl, hlocks, hgv⟩, hL, hJ, hKm, hAo, hAm, hk⟩ := id C
  have hb : c.code = cL_law := hb
  have hown : s.vm.findClass RL = some m.cls := hown
  have hts : ∀ w ∈ wsL_law, w.before #[Value.ref b] s = true := fun w h => hts0 w (wsL_law_in w h)
  have hbA : ¬ (fun q : Nat => s.heap.size ≤ q) b := Nat.not_le.mpr hbl
  obtain ⟨hB1, hB2⟩ := hB
  obtain ⟨X, t1, t2, t3, t4, t5, hU, hI, g_o, g1, g2, g3, g4, g5, hpv, hst, hO, ht9, hF, g_z, c_z⟩ := id hX
  refine lv_aload_n hx hb dL_law_966 rfl (lv_at hl 2 rfl) ?_
  refine lv_aload_n hx hb dL_law_967 rfl (lv_at hl 3 rfl) ?_
  refine lv_iload_n hx hb dL_law_968 rfl (lv_at hl 0 rfl) ?_
  refine lv_iconst (v := kz 1) hx hb dL_law_969 rfl ?_
  refine iz_iadd hx hb dL_law_970 ?_
  refine va_sld hx hb hSc hbl hbA hS (kz_in (n := L) (z := 6 * (k : Int) + 1) (by omega) (by omega) (by omega)) dL_law_971 ?_
  refine iz_any (fun z_o1 z_o1a z_o1b _ => ?_)
  refine lv_aload_n hx hb dL_law_972 rfl (lv_at hl 3 rfl) ?_
  refine lv_iload_n hx hb dL_law_973 rfl (lv_at hl 0 rfl) ?_
  refine lv_iconst (v := kz 2) hx hb dL_law_974 rfl ?_
  refine iz_iadd hx hb dL_law_975 ?_
  refine va_sld hx hb hSc hbl hbA hS (kz_in (n := L) (z := 6 * (k : Int) + 2) (by omega) (by omega) (by omega)) dL_law_976 ?_
  refine iz_any (fun z_o2 z_o2a z_o2b _ => ?_)
  refine vp_callSi (va_Run.run (va_runV (As := [.int (kz z_o1), .int (kz z_o2)]) (rest := []) ⟨hx, hb, hml, hown, hts⟩ (j_about l dC dI ca (lAx s.heap.size m0 n1) X hU o t1 t2 t3 t4 t5 pv st z_o1 z_o2 g_o hAo g1 g2 g3 g4 g5 hpv hst ⟨z_o1a, z_o1b⟩ ⟨z_o2a, z_o2b⟩) (cwV 2 hts gL_law_X11_about rfl rfl rfl (by decide +kernel) ⟨Nat.le_of_ble_eq_true rfl, Nat.le_of_ble_eq_true rfl⟩) ⟨fun a U g mk q => by obtain ⟨q0, ⟨qK, qN⟩, qI⟩ := q; exact ⟨q0, ⟨va_K.moved (u := U) (U := U.calling g mk a) (Vm.Alike.refl U.vm) qK, jN_same (U := U.calling g mk a) rfl qN⟩, qI⟩, va_recv hKm (at_P hO) (ci := 11) (q0 := 0) rfl rfl, fun U hU9 hW => ⟨rfl, jK_warm hW hJ, by rw [hU9]; exact ⟨hI, hO⟩⟩⟩ rfl rfl hl.1 rfl (lv_room (Nat.le_of_ble_eq_true rfl)) dL_law_977 ⟨(by show _ + 0 ≤ 600000; omega), (by show _ + 0 ≤ 7302250; omega)⟩)) (fun r9 _ => ?_)
  refine lv_pop hx hb dL_law_980 rfl ?_
  exact law_m24 C kk hX hM hR hS hl ⟨by omega, by omega⟩
set_option maxHeartbeats 4000000 in
set_option maxRecDepth 100000 in
theorem law_m25 {p : Program} {l : Launch} {e : Env} {s : State} {m : MethodId} {below : List Frame} {meth : Method} {c : Code} {b L : Nat} {xs : Nat → Int32} {dC : Nat → ClassId} {dI : Nat → Nat → Nat} {ca : Nat → ClassId} {o m0 n1 z9 k : Nat} {ff fm : Nat → Int32} (C : lCx p s m meth c b L xs (dC, dI) ca o m0 n1 k) (kk : lKk p l e s m below meth c b (dC, dI) ca o m0 n1 z9 k) {pv : Option Nat} {st : Int} {H : Heap} {locs : List Loc} {ls : Array Slot} {cells slots : Nat} (hX : lX (dC, dI) ca s.heap.size m0 n1 o z9 ff pv st H) (hM : lM (dC, dI) ca m0 n1 fm H) (hR : lR ff fm) (hS : va_S (fun q : Nat => s.heap.size ≤ q) s.heap H locs) (hl : lv_has ls 4 [(3, .int (kz (6 * (k : Int)))), (2, .ref m0), (1, .ref o), (0, .ref b)]) (hB : bud (k + 1) pv cells slots) : W p l e room_1 s m #[Value.ref b] below meth c H locs cells slots (lw_Z below #[Value.ref b] s) (F0 m 1009 ls []) := by
  obtain ⟨⟨hx, hb, hr, hml, hown, hts0, hSc, hbl, hlocks, hgv⟩, hL, hJ, hKm, hAo, hAm, hk⟩ := id C
  have hb : c.code = cL_law := hb
  have hown : s.vm.findClass RL = some m.cls := hown
  have hts : ∀ w ∈ wsL_law, w.before #[Value.ref b] s = true := fun w h => hts0 w (wsL_law_in w h)
  have hbA : ¬ (fun q : Nat => s.heap.size ≤ q) b := Nat.not_le.mpr hbl
  obtain ⟨hB1, hB2⟩ := hB
  obtain ⟨Xm, zi, zl, mS9, mZ9, ⟨mI9, mO9⟩, c_m⟩ := id hM
  refine lv_aload_n hx hb dL_law_1009 rfl (lv_at hl 1 rfl) ?_
  refine lv_aload_n hx hb dL_law_1010 rfl (lv_at hl 3 rfl) ?_
  refine lv_iload_n hx hb dL_law_1011 rfl (lv_at hl 0 rfl) ?_
  refine lv_iconst (v := kz 1) hx hb dL_law_1012 rfl ?_
  refine iz_iadd hx hb dL_law_1013 ?_
  refine va_sld hx hb hSc hbl hbA hS (kz_in (n := L) (z := 6 * (k : Int) + 1) (by omega) (by omega) (by omega)) dL_law_1014 ?_
  refine iz_any (fun z_m1 z_m1a z_m1b _ => ?_)
  refine vp_callSi (va_Run.run (va_runV (As := [.int (kz z_m1)]) (rest := []) ⟨hx, hb, hml, hown, hts⟩ (m_count l dC dI ca (lAm m0 n1) Xm m0 (mam n1) zi zl mS9 mZ9 z_m1 ⟨z_m1a, z_m1b⟩) (cwV 1 hts gL_law_X12_count rfl rfl rfl (by decide +kernel) ⟨Nat.le_of_ble_eq_true rfl, Nat.le_of_ble_eq_true rfl⟩) ⟨fun a U g mk q => by obtain ⟨q0, qK, qI⟩ := q; exact ⟨q0, va_K.moved (u := U) (U := U.calling g mk a) (Vm.Alike.refl U.vm) qK, qI⟩, va_recv hKm (at_P mO9) (ci := 12) (q0 := 0) rfl rfl, fun U hU9 hW => ⟨rfl, va_K.moved hW.alike hKm, by rw [hU9]; exact ⟨mI9, mO9⟩⟩⟩ rfl rfl hl.1 rfl (lv_room (Nat.le_of_ble_eq_true rfl)) dL_law_1015 ⟨(by show _ + 0 ≤ 600000; omega), (by show _ + 0 ≤ 7302250; omega)⟩)) (fun r9 _ => ?_)
  refine lv_pop hx hb dL_law_1018 rfl ?_
  refine lv_goto (tgt := 1022) hx hb dL_law_1019 (by decide) ?_
  exact kk ff fm pv st H locs ls cells slots hX hM hR hS hl ⟨hB1, hB2⟩
set_option maxHeartbeats 4000000 in
set_option maxRecDepth 100000 in
theorem law_c25 {p : Program} {l : Launch} {e : Env} {s : State} {m : MethodId} {below : List Frame} {meth : Method} {c : Code} {b L : Nat} {xs : Nat → Int32} {dC : Nat → ClassId} {dI : Nat → Nat → Nat} {ca : Nat → ClassId} {o m0 n1 z9 k : Nat} {ff fm : Nat → Int32} (C : lCx p s m meth c b L xs (dC, dI) ca o m0 n1 k) (kk : lKk p l e s m below meth c b (dC, dI) ca o m0 n1 z9 k) {pv : Option Nat} {st : Int} {H : Heap} {locs : List Loc} {ls : Array Slot} {cells slots : Nat} (hX : lX (dC, dI) ca s.heap.size m0 n1 o z9 ff pv st H) (hM : lM (dC, dI) ca m0 n1 fm H) (hR : lR ff fm) (hS : va_S (fun q : Nat => s.heap.size ≤ q) s.heap H locs) (hl : lv_has ls 4 [(3, .int (kz (6 * (k : Int)))), (2, .ref m0), (1, .ref o), (0, .ref b)]) (hB : bud k pv cells slots) : W p l e room_1 s m #[Value.ref b] below meth c H locs cells slots (lw_Z below #[Value.ref b] s) (F0 m 999 ls []) := by
  obtain ⟨⟨hx, hb, hr, hml, hown, hts0, hSc, hbl, hlocks, hgv⟩, hL, hJ, hKm, hAo, hAm, hk⟩ := id C
  have hb : c.code = cL_law := hb
  have hown : s.vm.findClass RL = some m.cls := hown
  have hts : ∀ w ∈ wsL_law, w.before #[Value.ref b] s = true := fun w h => hts0 w (wsL_law_in w h)
  have hbA : ¬ (fun q : Nat => s.heap.size ≤ q) b := Nat.not_le.mpr hbl
  obtain ⟨hB1, hB2⟩ := hB
  obtain ⟨X, t1, t2, t3, t4, t5, hU, hI, g_o, g1, g2, g3, g4, g5, hpv, hst, hO, ht9, hF, g_z, c_z⟩ := id hX
  refine lv_aload_n hx hb dL_law_999 rfl (lv_at hl 2 rfl) ?_
  refine lv_aload_n hx hb dL_law_1000 rfl (lv_at hl 3 rfl) ?_
  refine lv_iload_n hx hb dL_law_1001 rfl (lv_at hl 0 rfl) ?_
  refine lv_iconst (v := kz 1) hx hb dL_law_1002 rfl ?_
  refine iz_iadd hx hb dL_law_1003 ?_
  refine va_sld hx hb hSc hbl hbA hS (kz_in (n := L) (z := 6 * (k : Int) + 1) (by omega) (by omega) (by omega)) dL_law_1004 ?_
  refine iz_any (fun z_o1 z_o1a z_o1b _ => ?_)
  refine vp_callSi (va_Run.run (va_runV (As := [.int (kz z_o1)]) (rest := []) ⟨hx, hb, hml, hown, hts⟩ (j_count l dC dI ca (lAx s.heap.size m0 n1) X hU o t1 t2 t3 t4 t5 pv st z_o1 g_o hAo g1 g2 g3 g4 g5 hpv hst ⟨z_o1a, z_o1b⟩) (cwV 1 hts gL_law_X11_count rfl rfl rfl (by decide +kernel) ⟨Nat.le_of_ble_eq_true rfl, Nat.le_of_ble_eq_true rfl⟩) ⟨fun a U g mk q => by obtain ⟨q0, ⟨qK, qN⟩, qI⟩ := q; exact ⟨q0, ⟨va_K.moved (u := U) (U := U.calling g mk a) (Vm.Alike.refl U.vm) qK, jN_same (U := U.calling g mk a) rfl qN⟩, qI⟩, va_recv hKm (at_P hO) (ci := 11) (q0 := 0) rfl rfl, fun U hU9 hW => ⟨rfl, jK_warm hW hJ, by rw [hU9]; exact ⟨hI, hO⟩⟩⟩ rfl rfl hl.1 rfl (lv_room (Nat.le_of_ble_eq_true rfl)) dL_law_1005 ⟨(by show _ + 0 ≤ 600000; omega), (by show _ + 0 ≤ 7302250; omega)⟩)) (fun r9 _ => ?_)
  refine lv_pop hx hb dL_law_1008 rfl ?_
  exact law_m25 C kk hX hM hR hS hl ⟨by omega, by omega⟩
