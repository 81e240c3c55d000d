set_option maxHeartbeats 4000000 in
set_option maxRecDepth 100000 in
theorem law_m9 {p : Program} {l : Launch} {e : Env} {s : State} {m : MethodId} {below : List Frame} {meth : Method} {c : Code} {b L : Nat} {xs : Nat → Int32} {dC : Nat → ClassId} {dI : Nat → Nat → Nat} {ca : Nat → ClassId} {o m0 n1 z9 k : Nat} {ff fm : Nat → Int32} (C : lCx p s m meth c b L xs (dC, dI) ca o m0 n1 k) (kk : lKk p l e s m below meth c b (dC, dI) ca o m0 n1 z9 k) {pv : Option Nat} {st : Int} {H : Heap} {locs : List Loc} {ls : Array Slot} {cells slots : Nat} (hX : lX (dC, dI) ca s.heap.size m0 n1 o z9 ff pv st H) (hM : lM (dC, dI) ca m0 n1 fm H) (hR : lR ff fm) (hS : va_S (fun q : Nat => s.heap.size ≤ q) s.heap H locs) (hl : lv_has ls 4 [(3, .int (kz (6 * (k : Int)))), (2, .ref m0), (1, .ref o), (0, .ref b)]) (hB : bud (k + 1) pv cells slots) : W p l e room_1 s m #[Value.ref b] below meth c H locs cells slots (lw_Z below #[Value.ref b] s) (F0 m 611 ls []) := by
  obtain ⟨⟨hx, hb, hr, hml, hown, hts0, hSc, hbl, hlocks, hgv⟩, hL, hJ, hKm, hAo, hAm, hk⟩ := id C
  have hb : c.code = cL_law := hb
  have hown : s.vm.findClass RL = some m.cls := hown
  have hts : ∀ w ∈ wsL_law, w.before #[Value.ref b] s = true := fun w h => hts0 w (wsL_law_in w h)
  have hbA : ¬ (fun q : Nat => s.heap.size ≤ q) b := Nat.not_le.mpr hbl
  obtain ⟨hB1, hB2⟩ := hB
  obtain ⟨Xm, zi, zl, mS9, mZ9, ⟨mI9, mO9⟩, c_m⟩ := id hM
  refine lv_aload_n hx hb dL_law_611 rfl (lv_at hl 1 rfl) ?_
  refine lv_aload_n hx hb dL_law_612 rfl (lv_at hl 3 rfl) ?_
  refine lv_iload_n hx hb dL_law_613 rfl (lv_at hl 0 rfl) ?_
  refine lv_iconst (v := kz 1) hx hb dL_law_614 rfl ?_
  refine iz_iadd hx hb dL_law_615 ?_
  refine va_sld hx hb hSc hbl hbA hS (kz_in (n := L) (z := 6 * (k : Int) + 1) (by omega) (by omega) (by omega)) dL_law_616 ?_
  refine iz_any (fun z_m1 z_m1a z_m1b _ => ?_)
  refine va_calli (va_runV (As := [.int (kz z_m1)]) (rest := []) ⟨hx, hb, hml, hown, hts⟩ (m_rowF l dC dI ca (lAm m0 n1) Xm m0 (mam n1) 18 (Or.inr rfl) zi zl mS9 mZ9 z_m1 ⟨z_m1a, z_m1b⟩) (cwV 1 hts gL_law_X12_row rfl rfl rfl (by decide +kernel) ⟨Nat.le_of_ble_eq_true rfl, Nat.le_of_ble_eq_true rfl⟩) ⟨fun a U g mk q => by obtain ⟨q0, qK, qI⟩ := q; exact ⟨q0, va_K.moved (u := U) (U := U.calling g mk a) (Vm.Alike.refl U.vm) qK, qI⟩, va_recv hKm (at_P mO9) (ci := 12) (q0 := 0) rfl rfl, fun U hU9 hW => ⟨rfl, va_K.moved hW.alike hKm, by rw [hU9]; exact ⟨mI9, mO9⟩⟩⟩ rfl rfl hl.1 rfl (lv_room (Nat.le_of_ble_eq_true rfl)) dL_law_617 ⟨(by show _ + 0 ≤ 600000; omega), (by show _ + 0 ≤ 7302250; omega)⟩) hS (fun q _ h => hAm q h.1) (fun q h => hAm q h.1) (fun r9 u t9 H1 locs1 ht hvm hw hQ hz1 hk1 hS1 => ?_)
  refine lv_pop hx hb dL_law_620 rfl ?_
  refine lv_goto (tgt := 1022) hx hb dL_law_621 (by decide) ?_
  obtain ⟨-, mI1⟩ := hQ
  rw [ht] at mI1
  have hM1 : lM (dC, dI) ca m0 n1 fm H1 := ⟨Xm, u.1, u.2, mS9, hw.1, mI1, c_m.kept (hk1 _ c_m.lt (fun h9 => h9.2 rfl))⟩
  exact kk ff fm pv st H1 locs1 ls cells slots (lX_kept hX hAo (fun q h1 h2 => hk1 q h1 (fun h => h2 h.1))) hM1 hR hS1 hl ⟨hB1, hB2⟩
set_option maxHeartbeats 4000000 in
set_option maxRecDepth 100000 in
theorem law_c9 {p : Program} {l : Launch} {e : Env} {s : State} {m : MethodId} {below : List Frame} {meth : Method} {c : Code} {b L : Nat} {xs : Nat → Int32} {dC : Nat → ClassId} {dI : Nat → Nat → Nat} {ca : Nat → ClassId} {o m0 n1 z9 k : Nat} {ff fm : Nat → Int32} (C : lCx p s m meth c b L xs (dC, dI) ca o m0 n1 k) (kk : lKk p l e s m below meth c b (dC, dI) ca o m0 n1 z9 k) {pv : Option Nat} {st : Int} {H : Heap} {locs : List Loc} {ls : Array Slot} {cells slots : Nat} (hX : lX (dC, dI) ca s.heap.size m0 n1 o z9 ff pv st H) (hM : lM (dC, dI) ca m0 n1 fm H) (hR : lR ff fm) (hS : va_S (fun q : Nat => s.heap.size ≤ q) s.heap H locs) (hl : lv_has ls 4 [(3, .int (kz (6 * (k : Int)))), (2, .ref m0), (1, .ref o), (0, .ref b)]) (hB : bud k pv cells slots) : W p l e room_1 s m #[Value.ref b] below meth c H locs cells slots (lw_Z below #[Value.ref b] s) (F0 m 601 ls []) := by
  obtain ⟨⟨hx, hb, hr, hml, hown, hts0, hSc, hbl, hlocks, hgv⟩, hL, hJ, hKm, hAo, hAm, hk⟩ := id C
  have hb : c.code = cL_law := hb
  have hown : s.vm.findClass RL = some m.cls := hown
  have hts : ∀ w ∈ wsL_law, w.before #[Value.ref b] s = true := fun w h => hts0 w (wsL_law_in w h)
  have hbA : ¬ (fun q : Nat => s.heap.size ≤ q) b := Nat.not_le.mpr hbl
  obtain ⟨hB1, hB2⟩ := hB
  obtain ⟨X, t1, t2, t3, t4, t5, hU, hI, g_o, g1, g2, g3, g4, g5, hpv, hst, hO, ht9, hF, g_z, c_z⟩ := id hX
  refine lv_aload_n hx hb dL_law_601 rfl (lv_at hl 2 rfl) ?_
  refine lv_aload_n hx hb dL_law_602 rfl (lv_at hl 3 rfl) ?_
  refine lv_iload_n hx hb dL_law_603 rfl (lv_at hl 0 rfl) ?_
  refine lv_iconst (v := kz 1) hx hb dL_law_604 rfl ?_
  refine iz_iadd hx hb dL_law_605 ?_
  refine va_sld hx hb hSc hbl hbA hS (kz_in (n := L) (z := 6 * (k : Int) + 1) (by omega) (by omega) (by omega)) dL_law_606 ?_
  refine iz_any (fun z_o1 z_o1a z_o1b _ => ?_)
  refine va_calli (va_runV (As := [.int (kz z_o1)]) (rest := []) ⟨hx, hb, hml, hown, hts⟩ (j_rowZ l dC dI ca (lAx s.heap.size m0 n1) X hU H z9 229 20 36 (-1) 5 g_z (Or.inr rfl) (by decide) o t1 t2 t3 t4 t5 pv st z_o1 g_o hAo g1 g2 g3 g4 g5 hpv hst ⟨z_o1a, z_o1b⟩) (cwV 1 hts gL_law_X11_row rfl rfl rfl (by decide +kernel) ⟨Nat.le_of_ble_eq_true rfl, Nat.le_of_ble_eq_true rfl⟩) ⟨fun a U g mk q => by obtain ⟨q0, qH, ⟨qK, qN⟩, qI⟩ := q; exact ⟨q0, qH, ⟨va_K.moved (u := U) (U := U.calling g mk a) (Vm.Alike.refl U.vm) qK, jN_same (U := U.calling g mk a) rfl qN⟩, qI⟩, va_recv hKm (at_P hO) (ci := 11) (q0 := 0) rfl rfl, fun U hU9 hW => ⟨rfl, hU9, jK_warm hW hJ, by rw [hU9]; exact ⟨hI, hO⟩⟩⟩ rfl rfl hl.1 rfl (lv_room (Nat.le_of_ble_eq_true rfl)) dL_law_607 ⟨(by show _ + 0 ≤ 600000; omega), (by show _ + 0 ≤ 7302250; omega)⟩) hS (fun q _ h => h.1) (fun q h => h.1) (fun r9 u t9 H1 locs1 ht hvm hw hQ hz1 hk1 hS1 => ?_)
  refine lv_pop hx hb dL_law_610 rfl ?_
  obtain ⟨-, hI1, hO1, hz9⟩ := hQ
  rw [ht] at hI1 hO1 hz9
  have c_z1 := c_z.kept hz9
  rw [hw] at hO1
  have hX1 : lX (dC, dI) ca s.heap.size m0 n1 o z9 ff pv st H1 := ⟨X, t1, t2, t3, t4, t5, hU, hI1, g_o, g1, g2, g3, g4, g5, hpv, hst, hO1, ht9, hF, g_z, c_z1⟩
  exact law_m9 C kk hX1 (lM_kept hM hk1) hR hS1 hl ⟨by omega, by omega⟩
set_option maxHeartbeats 4000000 in
set_option maxRecDepth 100000 in
theorem law_m10 {p : Program} {l : Launch} {e : Env} {s : State} {m : MethodId} {below : List Frame} {meth : Method} {c : Code} {b L : Nat} {xs : Nat → Int32} {dC : Nat → ClassId} {dI : Nat → Nat → Nat} {ca : Nat → ClassId} {o m0 n1 z9 k : Nat} {ff fm : Nat → Int32} (C : lCx p s m meth c b L xs (dC, dI) ca o m0 n1 k) (kk : lKk p l e s m below meth c b (dC, dI) ca o m0 n1 z9 k) {pv : Option Nat} {st : Int} {H : Heap} {locs : List Loc} {ls : Array Slot} {cells slots : Nat} (hX : lX (dC, dI) ca s.heap.size m0 n1 o z9 ff pv st H) (hM : lM (dC, dI) ca m0 n1 fm H) (hR : lR ff fm) (hS : va_S (fun q : Nat => s.heap.size ≤ q) s.heap H locs) (hl : lv_has ls 4 [(3, .int (kz (6 * (k : Int)))), (2, .ref m0), (1, .ref o), (0, .ref b)]) (hB : bud (k + 1) pv cells slots) : W p l e room_1 s m #[Value.ref b] below meth c H locs cells slots (lw_Z below #[Value.ref b] s) (F0 m 639 ls []) := by
  obtain ⟨⟨hx, hb, hr, hml, hown, hts0, hSc, hbl, hlocks, hgv⟩, hL, hJ, hKm, hAo, hAm, hk⟩ := id C
  have hb : c.code = cL_law := hb
  have hown : s.vm.findClass RL = some m.cls := hown
  have hts : ∀ w ∈ wsL_law, w.before #[Value.ref b] s = true := fun w h => hts0 w (wsL_law_in w h)
  have hbA : ¬ (fun q : Nat => s.heap.size ≤ q) b := Nat.not_le.mpr hbl
  obtain ⟨hB1, hB2⟩ := hB
  obtain ⟨Xm, zi, zl, mS9, mZ9, ⟨mI9, mO9⟩, c_m⟩ := id hM
  refine lv_aload_n hx hb dL_law_639 rfl (lv_at hl 1 rfl) ?_
  refine lv_aload_n hx hb dL_law_640 rfl (lv_at hl 3 rfl) ?_
  refine lv_iload_n hx hb dL_law_641 rfl (lv_at hl 0 rfl) ?_
  refine lv_iconst (v := kz 1) hx hb dL_law_642 rfl ?_
  refine iz_iadd hx hb dL_law_643 ?_
  refine va_sld hx hb hSc hbl hbA hS (kz_in (n := L) (z := 6 * (k : Int) + 1) (by omega) (by omega) (by omega)) dL_law_644 ?_
  refine iz_any (fun z_m1 z_m1a z_m1b _ => ?_)
  refine lv_aload_n hx hb dL_law_645 rfl (lv_at hl 3 rfl) ?_
  refine lv_iload_n hx hb dL_law_646 rfl (lv_at hl 0 rfl) ?_
  refine lv_iconst (v := kz 2) hx hb dL_law_647 rfl ?_
  refine iz_iadd hx hb dL_law_648 ?_
  refine va_sld hx hb hSc hbl hbA hS (kz_in (n := L) (z := 6 * (k : Int) + 2) (by omega) (by omega) (by omega)) dL_law_649 ?_
  refine iz_any (fun z_m2 z_m2a z_m2b _ => ?_)
  refine va_calli (va_runV (As := [.int (kz z_m1), .int (kz z_m2)]) (rest := []) ⟨hx, hb, hml, hown, hts⟩ (m_joinsF l dC dI ca (lAm m0 n1) Xm m0 (mam n1) 18 (Or.inr rfl) zi zl mS9 mZ9 z_m1 z_m2 ⟨z_m1a, z_m1b⟩ ⟨z_m2a, z_m2b⟩) (cwV 2 hts gL_law_X12_joins rfl rfl rfl (by decide +kernel) ⟨Nat.le_of_ble_eq_true rfl, Nat.le_of_ble_eq_true rfl⟩) ⟨fun a U g mk q => by obtain ⟨q0, qK, qI⟩ := q; exact ⟨q0, va_K.moved (u := U) (U := U.calling g mk a) (Vm.Alike.refl U.vm) qK, qI⟩, va_recv hKm (at_P mO9) (ci := 12) (q0 := 0) rfl rfl, fun U hU9 hW => ⟨rfl, va_K.moved hW.alike hKm, by rw [hU9]; exact ⟨mI9, mO9⟩⟩⟩ rfl rfl hl.1 rfl (lv_room (Nat.le_of_ble_eq_true rfl)) dL_law_650 ⟨(by show _ + 0 ≤ 600000; omega), (by show _ + 0 ≤ 7302250; omega)⟩) hS (fun q _ h => hAm q h.1) (fun q h => hAm q h.1) (fun r9 u t9 H1 locs1 ht hvm hw hQ hz1 hk1 hS1 => ?_)
  refine lv_pop hx hb dL_law_653 rfl ?_
  refine lv_goto (tgt := 1022) hx hb dL_law_654 (by decide) ?_
  obtain ⟨-, mI1⟩ := hQ
  rw [ht] at mI1
  have hM1 : lM (dC, dI) ca m0 n1 fm H1 := ⟨Xm, u.1, u.2, mS9, hw.1, mI1, c_m.kept (hk1 _ c_m.lt (fun h9 => h9.2 rfl))⟩
  exact kk ff fm pv st H1 locs1 ls cells slots (lX_kept hX hAo (fun q h1 h2 => hk1 q h1 (fun h => h2 h.1))) hM1 hR hS1 hl ⟨hB1, hB2⟩
set_option maxHeartbeats 4000000 in
set_option maxRecDepth 100000 in
theorem law_c10 {p : Program} {l : Launch} {e : Env} {s : State} {m : MethodId} {below : List Frame} {meth : Method} {c : Code} {b L : Nat} {xs : Nat → Int32} {dC : Nat → ClassId} {dI : Nat → Nat → Nat} {ca : Nat → ClassId} {o m0 n1 z9 k : Nat} {ff fm : Nat → Int32} (C : lCx p s m meth c b L xs (dC, dI) ca o m0 n1 k) (kk : lKk p l e s m below meth c b (dC, dI) ca o m0 n1 z9 k) {pv : Option Nat} {st : Int} {H : Heap} {locs : List Loc} {ls : Array Slot} {cells slots : Nat} (hX : lX (dC, dI) ca s.heap.size m0 n1 o z9 ff pv st H) (hM : lM (dC, dI) ca m0 n1 fm H) (hR : lR ff fm) (hS : va_S (fun q : Nat => s.heap.size ≤ q) s.heap H locs) (hl : lv_has ls 4 [(3, .int (kz (6 * (k : Int)))), (2, .ref m0), (1, .ref o), (0, .ref b)]) (hB : bud k pv cells slots) : W p l e room_1 s m #[Value.ref b] below meth c H locs cells slots (lw_Z below #[Value.ref b] s) (F0 m 624 ls []) := by
  obtain ⟨⟨hx, hb, hr, hml, hown, hts0, hSc, hbl, hlocks, hgv⟩, hL, hJ, hKm, hAo, hAm, hk⟩ := id C
  have hb : c.code = cL_law := hb
  have hown : s.vm.findClass RL = some m.cls := hown
  have hts : ∀ w ∈ wsL_law, w.before #[Value.ref b] s = true := fun w h => hts0 w (wsL_law_in w h)
  have hbA : ¬ (fun q : Nat => s.heap.size ≤ q) b := Nat.not_le.mpr hbl
  obtain ⟨hB1, hB2⟩ := hB
  obtain ⟨X, t1, t2, t3, t4, t5, hU, hI, g_o, g1, g2, g3, g4, g5, hpv, hst, hO, ht9, hF, g_z, c_z⟩ := id hX
  refine lv_aload_n hx hb dL_law_624 rfl (lv_at hl 2 rfl) ?_
  refine lv_aload_n hx hb dL_law_625 rfl (lv_at hl 3 rfl) ?_
  refine lv_iload_n hx hb dL_law_626 rfl (lv_at hl 0 rfl) ?_
  refine lv_iconst (v := kz 1) hx hb dL_law_627 rfl ?_
  refine iz_iadd hx hb dL_law_628 ?_
  refine va_sld hx hb hSc hbl hbA hS (kz_in (n := L) (z := 6 * (k : Int) + 1) (by omega) (by omega) (by omega)) dL_law_629 ?_
  refine iz_any (fun z_o1 z_o1a z_o1b _ => ?_)
  refine lv_aload_n hx hb dL_law_630 rfl (lv_at hl 3 rfl) ?_
  refine lv_iload_n hx hb dL_law_631 rfl (lv_at hl 0 rfl) ?_
  refine lv_iconst (v := kz 2) hx hb dL_law_632 rfl ?_
  refine iz_iadd hx hb dL_law_633 ?_
  refine va_sld hx hb hSc hbl hbA hS (kz_in (n := L) (z := 6 * (k : Int) + 2) (by omega) (by omega) (by omega)) dL_law_634 ?_
  refine iz_any (fun z_o2 z_o2a z_o2b _ => ?_)
  refine va_calli (va_runV (As := [.int (kz z_o1), .int (kz z_o2)]) (rest := []) ⟨hx, hb, hml, hown, hts⟩ (j_joinsZ l dC dI ca (lAx s.heap.size m0 n1) X hU H z9 229 20 36 (-1) 5 g_z (Or.inr rfl) (by decide) o t1 t2 t3 t4 t5 pv st z_o1 z_o2 g_o hAo g1 g2 g3 g4 g5 hpv hst ⟨z_o1a, z_o1b⟩ ⟨z_o2a, z_o2b⟩) (cwV 2 hts gL_law_X11_joins rfl rfl rfl (by decide +kernel) ⟨Nat.le_of_ble_eq_true rfl, Nat.le_of_ble_eq_true rfl⟩) ⟨fun a U g mk q => by obtain ⟨q0, qH, ⟨qK, qN⟩, qI⟩ := q; exact ⟨q0, qH, ⟨va_K.moved (u := U) (U := U.calling g mk a) (Vm.Alike.refl U.vm) qK, jN_same (U := U.calling g mk a) rfl qN⟩, qI⟩, va_recv hKm (at_P hO) (ci := 11) (q0 := 0) rfl rfl, fun U hU9 hW => ⟨rfl, hU9, jK_warm hW hJ, by rw [hU9]; exact ⟨hI, hO⟩⟩⟩ rfl rfl hl.1 rfl (lv_room (Nat.le_of_ble_eq_true rfl)) dL_law_635 ⟨(by show _ + 0 ≤ 600000; omega), (by show _ + 0 ≤ 7302250; omega)⟩) hS (fun q _ h => h.1) (fun q h => h.1) (fun r9 u t9 H1 locs1 ht hvm hw hQ hz1 hk1 hS1 => ?_)
  refine lv_pop hx hb dL_law_638 rfl ?_
  obtain ⟨-, hI1, hO1, hz9⟩ := hQ
  rw [ht] at hI1 hO1 hz9
  have c_z1 := c_z.kept hz9
  obtain ⟨hP, hw⟩ := hw
  rw [hw] at hO1
  have hX1 : lX (dC, dI) ca s.heap.size m0 n1 o z9 ff pv st H1 := lX_mk hP (by decide) hI1 g_o g1 g2 g3 g4 g5 (fun b9 e9 => prl_t hP (hpv b9 e9) (show (30 : Nat) ≠ 0 by decide)) hst hO1 ht9 (fun e9 => lF_prl (hF e9) hP) g_z c_z1
  exact law_m10 C kk hX1 (lM_kept hM hk1) hR hS1 hl ⟨by omega, by omega⟩
set_option maxHeartbeats 4000000 in
set_option maxRecDepth 100000 in
theorem law_m11 {p : Program} {l : Launch} {e : Env} {s : State} {m : MethodId} {below : List Frame} {meth : Method} {c : Code} {b L : Nat} {xs : Nat → Int32} {dC : Nat → ClassId} {dI : Nat → Nat → Nat} {ca : Nat → ClassId} {o m0 n1 z9 k : Nat} {ff fm : Nat → Int32} (C : lCx p s m meth c b L xs (dC, dI) ca o m0 n1 k) (kk : lKk p l e s m below meth c b (dC, dI) ca o m0 n1 z9 k) {pv : Option Nat} {st : Int} {H : Heap} {locs : List Loc} {ls : Array Slot} {cells slots : Nat} (hX : lX (dC, dI) ca s.heap.size m0 n1 o z9 ff pv st H) (hM : lM (dC, dI) ca m0 n1 fm H) (hR : lR ff fm) (hS : va_S (fun q : Nat => s.heap.size ≤ q) s.heap H locs) (hl : lv_has ls 4 [(3, .int (kz (6 * (k : Int)))), (2, .ref m0), (1, .ref o), (0, .ref b)]) (hB : bud (k + 1) pv cells slots) : W p l e room_1 s m #[Value.ref b] below meth c H locs cells slots (lw_Z below #[Value.ref b] s) (F0 m 662 ls []) := by
  obtain ⟨⟨hx, hb, hr, hml, hown, hts0, hSc, hbl, hlocks, hgv⟩, hL, hJ, hKm, hAo, hAm, hk⟩ := id C
  have hb : c.code = cL_law := hb
  have hown : s.vm.findClass RL = some m.cls := hown
  have hts : ∀ w ∈ wsL_law, w.before #[Value.ref b] s = true := fun w h => hts0 w (wsL_law_in w h)
  have hbA : ¬ (fun q : Nat => s.heap.size ≤ q) b := Nat.not_le.mpr hbl
  obtain ⟨hB1, hB2⟩ := hB
  obtain ⟨Xm, zi, zl, mS9, mZ9, ⟨mI9, mO9⟩, c_m⟩ := id hM
  refine lv_aload_n hx hb dL_law_662 rfl (lv_at hl 1 rfl) ?_
  refine va_calli (va_runV (As := []) (rest := []) ⟨hx, hb, hml, hown, hts⟩ (m_joinedF l dC dI ca (lAm m0 n1) Xm m0 (mam n1) 18 (Or.inr rfl) zi zl mS9 mZ9) (cwV 0 hts gL_law_X12_joined rfl rfl rfl (by decide +kernel) ⟨Nat.le_of_ble_eq_true rfl, Nat.le_of_ble_eq_true rfl⟩) ⟨fun a U g mk q => by obtain ⟨q0, qK, qI⟩ := q; exact ⟨q0, va_K.moved (u := U) (U := U.calling g mk a) (Vm.Alike.refl U.vm) qK, qI⟩, va_recv hKm (at_P mO9) (ci := 12) (q0 := 0) rfl rfl, fun U hU9 hW => ⟨rfl, va_K.moved hW.alike hKm, by rw [hU9]; exact ⟨mI9, mO9⟩⟩⟩ rfl rfl hl.1 rfl (lv_room (Nat.le_of_ble_eq_true rfl)) dL_law_663 ⟨(by show _ + 0 ≤ 600000; omega), (by show _ + 0 ≤ 7302250; omega)⟩) hS (fun q _ h => hAm q h.1) (fun q h => hAm q h.1) (fun r9 u t9 H1 locs1 ht hvm hw hQ hz1 hk1 hS1 => ?_)
  refine lv_pop hx hb dL_law_666 rfl ?_
  refine lv_goto (tgt := 1022) hx hb dL_law_667 (by decide) ?_
  obtain ⟨-, mI1⟩ := hQ
  rw [ht] at mI1
  have hM1 : lM (dC, dI) ca m0 n1 fm H1 := ⟨Xm, u.1, u.2, mS9, hw.1, mI1, c_m.kept (hk1 _ c_m.lt (fun h9 => h9.2 rfl))⟩
  exact kk ff fm pv st H1 locs1 ls cells slots (lX_kept hX hAo (fun q h1 h2 => hk1 q h1 (fun h => h2 h.1))) hM1 hR hS1 hl ⟨hB1, hB2⟩
set_option maxHeartbeats 4000000 in
set_option maxRecDepth 100000 in
theorem law_c11 {p : Program} {l : Launch} {e : Env} {s : State} {m : MethodId} {below : List Frame} {meth : Method} {c : Code} {b L : Nat} {xs : Nat → Int32} {dC : Nat → ClassId} {dI : Nat → Nat → Nat} {ca : Nat → ClassId} {o m0 n1 z9 k : Nat} {ff fm : Nat → Int32} (C : lCx p s m meth c b L xs (dC, dI) ca o m0 n1 k) (kk : lKk p l e s m below meth c b (dC, dI) ca o m0 n1 z9 k) {pv : Option Nat} {st : Int} {H : Heap} {locs : List Loc} {ls : Array Slot} {cells slots : Nat} (hX : lX (dC, dI) ca s.heap.size m0 n1 o z9 ff pv st H) (hM : lM (dC, dI) ca m0 n1 fm H) (hR : lR ff fm) (hS : va_S (fun q : Nat => s.heap.size ≤ q) s.heap H locs) (hl : lv_has ls 4 [(3, .int (kz (6 * (k : Int)))), (2, .ref m0), (1, .ref o), (0, .ref b)]) (hB : bud k pv cells slots) : W p l e room_1 s m #[Value.ref b] below meth c H locs cells slots (lw_Z below #[Value.ref b] s) (F0 m 657 ls []) := by
  obtain ⟨⟨hx, hb, hr, hml, hown, hts0, hSc, hbl, hlocks, hgv⟩, hL, hJ, hKm, hAo, hAm, hk⟩ := id C
  have hb : c.code = cL_law := hb
  have hown : s.vm.findClass RL = some m.cls := hown
  have hts : ∀ w ∈ wsL_law, w.before #[Value.ref b] s = true := fun w h => hts0 w (wsL_law_in w h)
  have hbA : ¬ (fun q : Nat => s.heap.size ≤ q) b := Nat.not_le.mpr hbl
  obtain ⟨hB1, hB2⟩ := hB
  obtain ⟨X, t1, t2, t3, t4, t5, hU, hI, g_o, g1, g2, g3, g4, g5, hpv, hst, hO, ht9, hF, g_z, c_z⟩ := id hX
  refine lv_aload_n hx hb dL_law_657 rfl (lv_at hl 2 rfl) ?_
  refine va_calli (va_runV (As := []) (rest := []) ⟨hx, hb, hml, hown, hts⟩ (j_joinedZ l dC dI ca (lAx s.heap.size m0 n1) X hU H z9 229 20 36 (-1) 5 g_z (Or.inr rfl) (by decide) o t1 t2 t3 t4 t5 pv st g_o hAo g1 g2 g3 g4 g5 hpv hst) (cwV 0 hts gL_law_X11_joined rfl rfl rfl (by decide +kernel) ⟨Nat.le_of_ble_eq_true rfl, Nat.le_of_ble_eq_true rfl⟩) ⟨fun a U g mk q => by obtain ⟨q0, qH, ⟨qK, qN⟩, qI⟩ := q; exact ⟨q0, qH, ⟨va_K.moved (u := U) (U := U.calling g mk a) (Vm.Alike.refl U.vm) qK, jN_same (U := U.calling g mk a) rfl qN⟩, qI⟩, va_recv hKm (at_P hO) (ci := 11) (q0 := 0) rfl rfl, fun U hU9 hW => ⟨rfl, hU9, jK_warm hW hJ, by rw [hU9]; exact ⟨hI, hO⟩⟩⟩ rfl rfl hl.1 rfl (lv_room (Nat.le_of_ble_eq_true rfl)) dL_law_658 ⟨(by show _ + 0 ≤ 600000; omega), (by show _ + 0 ≤ 7302250; omega)⟩) hS (fun q _ h => h.1) (fun q h => h.1) (fun r9 u t9 H1 locs1 ht hvm hw hQ hz1 hk1 hS1 => ?_)
  refine lv_pop hx hb dL_law_661 rfl ?_
  obtain ⟨-, hI1, hO1, hz9⟩ := hQ
  rw [ht] at hI1 hO1 hz9
  have c_z1 := c_z.kept hz9
  rw [hw] at hO1
  have hX1 : lX (dC, dI) ca s.heap.size m0 n1 o z9 ff pv st H1 := ⟨X, t1, t2, t3, t4, t5, hU, hI1, g_o, g1, g2, g3, g4, g5, hpv, hst, hO1, ht9, hF, g_z, c_z1⟩
  exact law_m11 C kk hX1 (lM_kept hM hk1) hR hS1 hl ⟨by omega, by omega⟩
set_option maxHeartbeats 4000000 in
set_option maxRecDepth 100000 in
theorem law_m12 {p : Program} {l : Launch} {e : Env} {s : State} {m : MethodId} {below : List Frame} {meth : Method} {c : Code} {b L : Nat} {xs : Nat → Int32} {dC : Nat → ClassId} {dI : Nat → Nat → Nat} {ca : Nat → ClassId} {o m0 n1 z9 k : Nat} {ff fm : Nat → Int32} (C : lCx p s m meth c b L xs (dC, dI) ca o m0 n1 k) (kk : lKk p l e s m below meth c b (dC, dI) ca o m0 n1 z9 k) {pv : Option Nat} {st : Int} {H : Heap} {locs : List Loc} {ls : Array Slot} {cells slots : Nat} (hX : lX (dC, dI) ca s.heap.size m0 n1 o z9 ff pv st H) (hM : lM (dC, dI) ca m0 n1 fm H) (hR : lR ff fm) (hS : va_S (fun q : Nat => s.heap.size ≤ q) s.heap H locs) (hl : lv_has ls 4 [(3, .int (kz (6 * (k : Int)))), (2, .ref m0), (1, .ref o), (0, .ref b)]) (hB : bud (k + 1) pv cells slots) : W p l e room_1 s m #[Value.ref b] below meth c H locs cells slots (lw_Z below #[Value.ref b] s) (F0 m 680 ls []) := by
  obtain ⟨⟨hx, hb, hr, hml, hown, hts0, hSc, hbl, hlocks, hgv⟩, hL, hJ, hKm, hAo, hAm, hk⟩ := id C
  have hb : c.code = cL_law := hb
  have hown : s.vm.findClass RL = some m.cls := hown
  have hts : ∀ w ∈ wsL_law, w.before #[Value.ref b] s = true := fun w h => hts0 w (wsL_law_in w h)
  have hbA : ¬ (fun q : Nat => s.heap.size ≤ q) b := Nat.not_le.mpr hbl
  obtain ⟨hB1, hB2⟩ := hB
  obtain ⟨Xm, zi, zl, mS9, mZ9, ⟨mI9, mO9⟩, c_m⟩ := id hM
  refine lv_aload_n hx hb dL_law_680 rfl (lv_at hl 1 rfl) ?_
  refine lv_aload_n hx hb dL_law_681 rfl (lv_at hl 3 rfl) ?_
  refine lv_iload_n hx hb dL_law_682 rfl (lv_at hl 0 rfl) ?_
  refine lv_iconst (v := kz 1) hx hb dL_law_683 rfl ?_
  refine iz_iadd hx hb dL_law_684 ?_
  refine va_sld hx hb hSc hbl hbA hS (kz_in (n := L) (z := 6 * (k : Int) + 1) (by omega) (by omega) (by omega)) dL_law_685 ?_
  refine iz_any (fun z_m1 z_m1a z_m1b _ => ?_)
  refine vp_callSi (va_Run.run (va_runV (As := [.int (kz z_m1)]) (rest := []) ⟨hx, hb, hml, hown, hts⟩ (m_letter l dC dI ca (lAm m0 n1) Xm m0 (mam n1) zi zl mS9 mZ9 z_m1 ⟨z_m1a, z_m1b⟩) (cwV 1 hts gL_law_X12_letter rfl rfl rfl (by decide +kernel) ⟨Nat.le_of_ble_eq_true rfl, Nat.le_of_ble_eq_true rfl⟩) ⟨fun a U g mk q => by obtain ⟨q0, qK, qI⟩ := q; exact ⟨q0, va_K.moved (u := U) (U := U.calling g mk a) (Vm.Alike.refl U.vm) qK, qI⟩, va_recv hKm (at_P mO9) (ci := 12) (q0 := 0) rfl rfl, fun U hU9 hW => ⟨rfl, va_K.moved hW.alike hKm, by rw [hU9]; exact ⟨mI9, mO9⟩⟩⟩ rfl rfl hl.1 rfl (lv_room (Nat.le_of_ble_eq_true rfl)) dL_law_686 ⟨(by show _ + 0 ≤ 600000; omega), (by show _ + 0 ≤ 7302250; omega)⟩)) (fun r9 _ => ?_)
  refine lv_pop hx hb dL_law_689 rfl ?_
  refine lv_goto (tgt := 1022) hx hb dL_law_690 (by decide) ?_
  exact kk ff fm pv st H locs ls cells slots hX hM hR hS hl ⟨hB1, hB2⟩
set_option maxHeartbeats 4000000 in
set_option maxRecDepth 100000 in
theorem law_c12 {p : Program} {l : Launch} {e : Env} {s : State} {m : MethodId} {below : List Frame} {meth : Method} {c : Code} {b L : Nat} {xs : Nat → Int32} {dC : Nat → ClassId} {dI : Nat → Nat → Nat} {ca : Nat → ClassId} {o m0 n1 z9 k : Nat} {ff fm : Nat → Int32} (C : lCx p s m meth c b L xs (dC, dI) ca o m0 n1 k) (kk : lKk p l e s m below meth c b (dC, dI) ca o m0 n1 z9 k) {pv : Option Nat} {st : Int} {H : Heap} {locs : List Loc} {ls : Array Slot} {cells slots : Nat} (hX : lX (dC, dI) ca s.heap.size m0 n1 o z9 ff pv st H) (hM : lM (dC, dI) ca m0 n1 fm H) (hR : lR ff fm) (hS : va_S (fun q : Nat => s.heap.size ≤ q) s.heap H locs) (hl : lv_has ls 4 [(3, .int (kz (6 * (k : Int)))), (2, .ref m0), (1, .ref o), (0, .ref b)]) (hB : bud k pv cells slots) : W p l e room_1 s m #[Value.ref b] below meth c H locs cells slots (lw_Z below #[Value.ref b] s) (F0 m 670 ls []) := by
  obtain ⟨⟨hx, hb, hr, hml, hown, hts0, hSc, hbl, hlocks, hgv⟩, hL, hJ, hKm, hAo, hAm, hk⟩ := id C
  have hb : c.code = cL_law := hb
  have hown : s.vm.findClass RL = some m.cls := hown
  have hts : ∀ w ∈ wsL_law, w.before #[Value.ref b] s = true := fun w h => hts0 w (wsL_law_in w h)
  have hbA : ¬ (fun q : Nat => s.heap.size ≤ q) b := Nat.not_le.mpr hbl
  obtain ⟨hB1, hB2⟩ := hB
  obtain ⟨X, t1, t2, t3, t4, t5, hU, hI, g_o, g1, g2, g3, g4, g5, hpv, hst, hO, ht9, hF, g_z, c_z⟩ := id hX
  refine lv_aload_n hx hb dL_law_670 rfl (lv_at hl 2 rfl) ?_
  refine lv_aload_n hx hb dL_law_671 rfl (lv_at hl 3 rfl) ?_
  refine lv_iload_n hx hb dL_law_672 rfl (lv_at hl 0 rfl) ?_
  refine lv_iconst (v := kz 1) hx hb dL_law_673 rfl ?_
  refine iz_iadd hx hb dL_law_674 ?_
  refine va_sld hx hb hSc hbl hbA hS (kz_in (n := L) (z := 6 * (k : Int) + 1) (by omega) (by omega) (by omega)) dL_law_675 ?_
  refine iz_any (fun z_o1 z_o1a z_o1b _ => ?_)
  refine vp_callSi (va_Run.run (va_runV (As := [.int (kz z_o1)]) (rest := []) ⟨hx, hb, hml, hown, hts⟩ (j_letter l dC dI ca (lAx s.heap.size m0 n1) X hU o t1 t2 t3 t4 t5 pv st z_o1 g_o hAo g1 g2 g3 g4 g5 hpv hst ⟨z_o1a, z_o1b⟩) (cwV 1 hts gL_law_X11_letter rfl rfl rfl (by decide +kernel) ⟨Nat.le_of_ble_eq_true rfl, Nat.le_of_ble_eq_true rfl⟩) ⟨fun a U g mk q => by obtain ⟨q0, ⟨qK, qN⟩, qI⟩ := q; exact ⟨q0, ⟨va_K.moved (u := U) (U := U.calling g mk a) (Vm.Alike.refl U.vm) qK, jN_same (U := U.calling g mk a) rfl qN⟩, qI⟩, va_recv hKm (at_P hO) (ci := 11) (q0 := 0) rfl rfl, fun U hU9 hW => ⟨rfl, jK_warm hW hJ, by rw [hU9]; exact ⟨hI, hO⟩⟩⟩ rfl rfl hl.1 rfl (lv_room (Nat.le_of_ble_eq_true rfl)) dL_law_676 ⟨(by show _ + 0 ≤ 600000; omega), (by show _ + 0 ≤ 7302250; omega)⟩)) (fun r9 _ => ?_)
  refine lv_pop hx hb dL_law_679 rfl ?_
  exact law_m12 C kk hX hM hR hS hl ⟨by omega, by omega⟩
set_option maxHeartbeats 4000000 in
set_option maxRecDepth 100000 in
theorem law_m13 {p : Program} {l : Launch} {e : Env} {s : State} {m : MethodId} {below : List Frame} {meth : Method} {c : Code} {b L : Nat} {xs : Nat → Int32} {dC : Nat → ClassId} {dI : Nat → Nat → Nat} {ca : Nat → ClassId} {o m0 n1 z9 k : Nat} {ff fm : Nat → Int32} (C : lCx p s m meth c b L xs (dC, dI) ca o m0 n1 k) (kk : lKk p l e s m below meth c b (dC, dI) ca o m0 n1 z9 k) {pv : Option Nat} {st : Int} {H : Heap} {locs : List Loc} {ls : Array Slot} {cells slots : Nat} (hX : lX (dC, dI) ca s.heap.size m0 n1 o z9 ff pv st H) (hM : lM (dC, dI) ca m0 n1 fm H) (hR : lR ff fm) (hS : va_S (fun q : Nat => s.heap.size ≤ q) s.heap H locs) (hl : lv_has ls 4 [(3, .int (kz (6 * (k : Int)))), (2, .ref m0), (1, .ref o), (0, .ref b)]) (hB : bud (k + 1) pv cells slots) : W p l e room_1 s m #[Value.ref b] below meth c H locs cells slots (lw_Z below #[Value.ref b] s) (F0 m 698 ls []) := by
  obtain ⟨⟨hx, hb, hr, hml, hown, hts0, hSc, hbl, hlocks, hgv⟩, hL, hJ, hKm, hAo, hAm, hk⟩ := id C
  have hb : c.code = cL_law := hb
  have hown : s.vm.findClass RL = some m.cls := hown
  have hts : ∀ w ∈ wsL_law, w.before #[Value.ref b] s = true := fun w h => hts0 w (wsL_law_in w h)
  have hbA : ¬ (fun q : Nat => s.heap.size ≤ q) b := Nat.not_le.mpr hbl
  obtain ⟨hB1, hB2⟩ := hB
  obtain ⟨Xm, zi, zl, mS9, mZ9, ⟨mI9, mO9⟩, c_m⟩ := id hM
  refine lv_aload_n hx hb dL_law_698 rfl (lv_at hl 1 rfl) ?_
  refine va_calli (va_runV (As := []) (rest := []) ⟨hx, hb, hml, hown, hts⟩ (m_backF l dC dI ca (lAm m0 n1) Xm m0 (mam n1) 18 (Or.inr rfl) zi zl mS9 mZ9) (cwV 0 hts gL_law_X12_back rfl rfl rfl (by decide +kernel) ⟨Nat.le_of_ble_eq_true rfl, Nat.le_of_ble_eq_true rfl⟩) ⟨fun a U g mk q => by obtain ⟨q0, qK, qI⟩ := q; exact ⟨q0, va_K.moved (u := U) (U := U.calling g mk a) (Vm.Alike.refl U.vm) qK, qI⟩, va_recv hKm (at_P mO9) (ci := 12) (q0 := 0) rfl rfl, fun U hU9 hW => ⟨rfl, va_K.moved hW.alike hKm, by rw [hU9]; exact ⟨mI9, mO9⟩⟩⟩ rfl rfl hl.1 rfl (lv_room (Nat.le_of_ble_eq_true rfl)) dL_law_699 ⟨(by show _ + 0 ≤ 600000; omega), (by show _ + 0 ≤ 7302250; omega)⟩) hS (fun q _ h => hAm q h.1) (fun q h => hAm q h.1) (fun r9 u t9 H1 locs1 ht hvm hw hQ hz1 hk1 hS1 => ?_)
  refine lv_pop hx hb dL_law_702 rfl ?_
  refine lv_goto (tgt := 1022) hx hb dL_law_703 (by decide) ?_
  obtain ⟨-, mI1⟩ := hQ
  rw [ht] at mI1
  have hM1 : lM (dC, dI) ca m0 n1 fm H1 := ⟨Xm, u.1, u.2, mS9, hw.1, mI1, c_m.kept (hk1 _ c_m.lt (fun h9 => h9.2 rfl))⟩
  exact kk ff fm pv st H1 locs1 ls cells slots (lX_kept hX hAo (fun q h1 h2 => hk1 q h1 (fun h => h2 h.1))) hM1 hR hS1 hl ⟨hB1, hB2⟩
set_option maxHeartbeats 4000000 in
set_option maxRecDepth 100000 in
theorem law_c13 {p : Program} {l : Launch} {e : Env} {s : State} {m : MethodId} {below : List Frame} {meth : Method} {c : Code} {b L : Nat} {xs : Nat → Int32} {dC : Nat → ClassId} {dI : Nat → Nat → Nat} {ca : Nat → ClassId} {o m0 n1 z9 k : Nat} {ff fm : Nat → Int32} (C : lCx p s m meth c b L xs (dC, dI) ca o m0 n1 k) (kk : lKk p l e s m below meth c b (dC, dI) ca o m0 n1 z9 k) {pv : Option Nat} {st : Int} {H : Heap} {locs : List Loc} {ls : Array Slot} {cells slots : Nat} (hX : lX (dC, dI) ca s.heap.size m0 n1 o z9 ff pv st H) (hM : lM (dC, dI) ca m0 n1 fm H) (hR : lR ff fm) (hS : va_S (fun q : Nat => s.heap.size ≤ q) s.heap H locs) (hl : lv_has ls 4 [(3, .int (kz (6 * (k : Int)))), (2, .ref m0), (1, .ref o), (0, .ref b)]) (hB : bud k pv cells slots) : W p l e room_1 s m #[Value.ref b] below meth c H locs cells slots (lw_Z below #[Value.ref b] s) (F0 m 693 ls []) := by
  obtain ⟨⟨hx, hb, hr, hml, hown, hts0, hSc, hbl, hlocks, hgv⟩, hL, hJ, hKm, hAo, hAm, hk⟩ := id C
  have hb : c.code = cL_law := hb
  have hown : s.vm.findClass RL = some m.cls := hown
  have hts : ∀ w ∈ wsL_law, w.before #[Value.ref b] s = true := fun w h => hts0 w (wsL_law_in w h)
  have hbA : ¬ (fun q : Nat => s.heap.size ≤ q) b := Nat.not_le.mpr hbl
  obtain ⟨hB1, hB2⟩ := hB
  obtain ⟨X, t1, t2, t3, t4, t5, hU, hI, g_o, g1, g2, g3, g4, g5, hpv, hst, hO, ht9, hF, g_z, c_z⟩ := id hX
  refine lv_aload_n hx hb dL_law_693 rfl (lv_at hl 2 rfl) ?_
  refine va_calli (va_runV (As := []) (rest := []) ⟨hx, hb, hml, hown, hts⟩ (j_backZ l dC dI ca (lAx s.heap.size m0 n1) X hU H z9 229 20 36 (-1) 5 g_z (Or.inr rfl) (by decide) o t1 t2 t3 t4 t5 pv st g_o hAo g1 g2 g3 g4 g5 hpv hst) (cwV 0 hts gL_law_X11_back rfl rfl rfl (by decide +kernel) ⟨Nat.le_of_ble_eq_true rfl, Nat.le_of_ble_eq_true rfl⟩) ⟨fun a U g mk q => by obtain ⟨q0, qH, ⟨qK, qN⟩, qI⟩ := q; exact ⟨q0, qH, ⟨va_K.moved (u := U) (U := U.calling g mk a) (Vm.Alike.refl U.vm) qK, jN_same (U := U.calling g mk a) rfl qN⟩, qI⟩, va_recv hKm (at_P hO) (ci := 11) (q0 := 0) rfl rfl, fun U hU9 hW => ⟨rfl, hU9, jK_warm hW hJ, by rw [hU9]; exact ⟨hI, hO⟩⟩⟩ rfl rfl hl.1 rfl (lv_room (Nat.le_of_ble_eq_true rfl)) dL_law_694 ⟨(by show _ + 0 ≤ 600000; omega), (by show _ + 0 ≤ 7302250; omega)⟩) hS (fun q _ h => h.1) (fun q h => h.1) (fun r9 u t9 H1 locs1 ht hvm hw hQ hz1 hk1 hS1 => ?_)
  refine lv_pop hx hb dL_law_697 rfl ?_
  obtain ⟨-, hI1, hO1, hz9⟩ := hQ
  rw [ht] at hI1 hO1 hz9
  have c_z1 := c_z.kept hz9
  rw [hw] at hO1
  have hX1 : lX (dC, dI) ca s.heap.size m0 n1 o z9 ff pv st H1 := ⟨X, t1, t2, t3, t4, t5, hU, hI1, g_o, g1, g2, g3, g4, g5, hpv, hst, hO1, ht9, hF, g_z, c_z1⟩
  exact law_m13 C kk hX1 (lM_kept hM hk1) hR hS1 hl ⟨by omega, by omega⟩
set_option maxHeartbeats 4000000 in
set_option maxRecDepth 100000 in
theorem law_m14 {p : Program} {l : Launch} {e : Env} {s : State} {m : MethodId} {below : List Frame} {meth : Method} {c : Code} {b L : Nat} {xs : Nat → Int32} {dC : Nat → ClassId} {dI : Nat → Nat → Nat} {ca : Nat → ClassId} {o m0 n1 z9 k : Nat} {ff fm : Nat → Int32} (C : lCx p s m meth c b L xs (dC, dI) ca o m0 n1 k) (kk : lKk p l e s m below meth c b (dC, dI) ca o m0 n1 z9 k) {pv : Option Nat} {st : Int} {H : Heap} {locs : List Loc} {ls : Array Slot} {cells slots : Nat} (hX : lX (dC, dI) ca s.heap.size m0 n1 o z9 ff pv st H) (hM : lM (dC, dI) ca m0 n1 fm H) (hR : lR ff fm) (hS : va_S (fun q : Nat => s.heap.size ≤ q) s.heap H locs) (hl : lv_has ls 4 [(3, .int (kz (6 * (k : Int)))), (2, .ref m0), (1, .ref o), (0, .ref b)]) (hB : bud (k + 1) pv cells slots) : W p l e room_1 s m #[Value.ref b] below meth c H locs cells slots (lw_Z below #[Value.ref b] s) (F0 m 716 ls []) := by
  obtain ⟨⟨hx, hb, hr, hml, hown, hts0, hSc, hbl, hlocks, hgv⟩, hL, hJ, hKm, hAo, hAm, hk⟩ := id C
  have hb : c.code = cL_law := hb
  have hown : s.vm.findClass RL = some m.cls := hown
  have hts : ∀ w ∈ wsL_law, w.before #[Value.ref b] s = true := fun w h => hts0 w (wsL_law_in w h)
  have hbA : ¬ (fun q : Nat => s.heap.size ≤ q) b := Nat.not_le.mpr hbl
  obtain ⟨hB1, hB2⟩ := hB
  obtain ⟨Xm, zi, zl, mS9, mZ9, ⟨mI9, mO9⟩, c_m⟩ := id hM
  refine lv_aload_n hx hb dL_law_716 rfl (lv_at hl 1 rfl) ?_
  refine lv_aload_n hx hb dL_law_717 rfl (lv_at hl 3 rfl) ?_
  refine lv_iload_n hx hb dL_law_718 rfl (lv_at hl 0 rfl) ?_
  refine lv_iconst (v := kz 1) hx hb dL_law_719 rfl ?_
  refine iz_iadd hx hb dL_law_720 ?_
  refine va_sld hx hb hSc hbl hbA hS (kz_in (n := L) (z := 6 * (k : Int) + 1) (by omega) (by omega) (by omega)) dL_law_721 ?_
  refine iz_any (fun z_m1 z_m1a z_m1b _ => ?_)
  refine va_calll (va_runV (As := [.int (kz z_m1)]) (rest := []) ⟨hx, hb, hml, hown, hts⟩ (m_partF l dC dI ca (lAm m0 n1) Xm m0 (mam n1) 18 (Or.inr rfl) zi zl mS9 mZ9 z_m1 ⟨z_m1a, z_m1b⟩) (cwV 1 hts gL_law_X12_part rfl rfl rfl (by decide +kernel) ⟨Nat.le_of_ble_eq_true rfl, Nat.le_of_ble_eq_true rfl⟩) ⟨fun a U g mk q => by obtain ⟨q0, qK, qI⟩ := q; exact ⟨q0, va_K.moved (u := U) (U := U.calling g mk a) (Vm.Alike.refl U.vm) qK, qI⟩, va_recv hKm (at_P mO9) (ci := 12) (q0 := 0) rfl rfl, fun U hU9 hW => ⟨rfl, va_K.moved hW.alike hKm, by rw [hU9]; exact ⟨mI9, mO9⟩⟩⟩ rfl rfl hl.1 rfl (lv_room (Nat.le_of_ble_eq_true rfl)) dL_law_722 ⟨(by show _ + 0 ≤ 600000; omega), (by show _ + 0 ≤ 7302250; omega)⟩) hS (fun q _ h => hAm q h.1) (fun q h => hAm q h.1) (fun r9 u t9 H1 locs1 ht hvm hw hQ hz1 hk1 hS1 => ?_)
  refine lv_pop2_2 hx hb dL_law_725 rfl ?_
  refine lv_goto (tgt := 1022) hx hb dL_law_726 (by decide) ?_
  obtain ⟨-, mI1⟩ := hQ
  rw [ht] at mI1
  have hM1 : lM (dC, dI) ca m0 n1 fm H1 := ⟨u.1, u.2.1, u.2.2, hw.1, hw.2.1, mI1, c_m.kept (hk1 _ c_m.lt (fun h9 => h9.2 rfl))⟩
  exact kk ff fm pv st H1 locs1 ls cells slots (lX_kept hX hAo (fun q h1 h2 => hk1 q h1 (fun h => h2 h.1))) hM1 hR hS1 hl ⟨hB1, hB2⟩
set_option maxHeartbeats 4000000 in
set_option maxRecDepth 100000 in
theorem law_c14 {p : Program} {l : Launch} {e : Env} {s : State} {m : MethodId} {below : List Frame} {meth : Method} {c : Code} {b L : Nat} {xs : Nat → Int32} {dC : Nat → ClassId} {dI : Nat → Nat → Nat} {ca : Nat → ClassId} {o m0 n1 z9 k : Nat} {ff fm : Nat → Int32} (C : lCx p s m meth c b L xs (dC, dI) ca o m0 n1 k) (kk : lKk p l e s m below meth c b (dC, dI) ca o m0 n1 z9 k) {pv : Option Nat} {st : Int} {H : Heap} {locs : List Loc} {ls : Array Slot} {cells slots : Nat} (hX : lX (dC, dI) ca s.heap.size m0 n1 o z9 ff pv st H) (hM : lM (dC, dI) ca m0 n1 fm H) (hR : lR ff fm) (hS : va_S (fun q : Nat => s.heap.size ≤ q) s.heap H locs) (hl : lv_has ls 4 [(3, .int (kz (6 * (k : Int)))), (2, .ref m0), (1, .ref o), (0, .ref b)]) (hB : bud k pv cells slots) : W p l e room_1 s m #[Value.ref b] below meth c H locs cells slots (lw_Z below #[Value.ref b] s) (F0 m 706 ls []) := by
  obtain ⟨⟨hx, hb, hr, hml, hown, hts0, hSc, hbl, hlocks, hgv⟩, hL, hJ, hKm, hAo, hAm, hk⟩ := id C
  have hb : c.code = cL_law := hb
  have hown : s.vm.findClass RL = some m.cls := hown
  have hts : ∀ w ∈ wsL_law, w.before #[Value.ref b] s = true := fun w h => hts0 w (wsL_law_in w h)
  have hbA : ¬ (fun q : Nat => s.heap.size ≤ q) b := Nat.not_le.mpr hbl
  obtain ⟨hB1, hB2⟩ := hB
  obtain ⟨X, t1, t2, t3, t4, t5, hU, hI, g_o, g1, g2, g3, g4, g5, hpv, hst, hO, ht9, hF, g_z, c_z⟩ := id hX
  refine lv_aload_n hx hb dL_law_706 rfl (lv_at hl 2 rfl) ?_
  refine lv_aload_n hx hb dL_law_707 rfl (lv_at hl 3 rfl) ?_
  refine lv_iload_n hx hb dL_law_708 rfl (lv_at hl 0 rfl) ?_
  refine lv_iconst (v := kz 1) hx hb dL_law_709 rfl ?_
  refine iz_iadd hx hb dL_law_710 ?_
  refine va_sld hx hb hSc hbl hbA hS (kz_in (n := L) (z := 6 * (k : Int) + 1) (by omega) (by omega) (by omega)) dL_law_711 ?_
  refine iz_any (fun z_o1 z_o1a z_o1b _ => ?_)
  cases pv with
  | some pb =>
    have g_pb := hpv pb rfl
    have hB1 : cells + 0 ≤ 500 + 41 * k := hB1
    have hB2 : slots + 0 ≤ 150000 + 9640 * k := hB2
    refine va_calll (va_runV (As := [.int (kz z_o1)]) (rest := []) ⟨hx, hb, hml, hown, hts⟩ (j_partSZ l dC dI ca (lAx s.heap.size m0 n1) X hU H z9 229 20 36 (-1) 5 g_z (Or.inr rfl) (by decide) o t1 t2 t3 t4 t5 pb st z_o1 g_o hAo g1 g2 g3 g4 g5 g_pb hst ⟨z_o1a, z_o1b⟩ (lA9 hM hS.1)) (cwV 1 hts gL_law_X11_part rfl rfl rfl (by decide +kernel) ⟨Nat.le_of_ble_eq_true rfl, Nat.le_of_ble_eq_true rfl⟩) ⟨fun a U g mk q => by obtain ⟨q0, qH, ⟨qK, qN⟩, qI⟩ := q; exact ⟨q0, qH, ⟨va_K.moved (u := U) (U := U.calling g mk a) (Vm.Alike.refl U.vm) qK, jN_same (U := U.calling g mk a) rfl qN⟩, qI⟩, va_recv hKm (at_P hO) (ci := 11) (q0 := 0) rfl rfl, fun U hU9 hW => ⟨rfl, hU9, jK_warm hW hJ, by rw [hU9]; exact ⟨hI, hO⟩⟩⟩ rfl rfl hl.1 rfl (lv_room (Nat.le_of_ble_eq_true rfl)) dL_law_712 ⟨(by show _ + 0 ≤ 600000; omega), (by show _ + 0 ≤ 7302250; omega)⟩) hS (fun q _ h => h.1) (fun q h => h.1) (fun r9 u t9 H1 locs1 ht hvm hw hQ hz1 hk1 hS1 => ?_)
    refine lv_pop2_2 hx hb dL_law_715 rfl ?_
    obtain ⟨-, hI1, hO1, hz9⟩ := hQ
    rw [ht] at hI1 hO1 hz9
    have c_z1 := c_z.kept hz9
    obtain ⟨hP, hw⟩ := hw
    rw [hw] at hO1
    have hX1 : lX (dC, dI) ca s.heap.size m0 n1 o z9 ff (some pb) st H1 := lX_mk hP (by decide) hI1 g_o g1 g2 g3 g4 g5 (fun b9 e9 => prl_t hP (hpv b9 e9) (show (30 : Nat) ≠ 0 by decide)) hst hO1 ht9 (fun e9 => by cases e9) g_z c_z1
    exact law_m14 C kk hX1 (lM_kept hM hk1) hR hS1 hl ⟨by show cells + 0 + 0 ≤ _; omega, by show slots + 0 + 0 ≤ _; omega⟩
  | none =>
    have hB1 : cells + 277 ≤ 500 + 41 * k := hB1
    have hB2 : slots + 23025 ≤ 150000 + 9640 * k := hB2
    obtain ⟨fs9, co_1, jo9⟩ := jv_o8 hI g1
    obtain ⟨bytes_1, size_1, rfl, g_bytes_1, ⟨size_1a, size_1b⟩⟩ := jo9
    obtain ⟨f1, c_f1, k_f1⟩ := jv_o200 hI g_bytes_1
    obtain ⟨hno_4, hno_226, hno_227, hno_228, hno_3, hno_219, hno_204, hno_220, hno_221, hno_222, hno_223, hno_224, hno_225, hfid⟩ := hF rfl
    by_cases hgd : (1 ≤ size_1 ∧ size_1 ≤ 40) ∧ (∀ z : Int, 0 ≤ z → z < size_1 → 97 ≤ ge1 f1 z ∧ ge1 f1 z ≤ 122) ∧ (0 ≤ z_o1 ∧ z_o1 ≤ 999)
    · refine va_calll (va_runV (As := [.int (kz z_o1)]) (rest := []) ⟨hx, hb, hml, hown, hts⟩ (j_partGZ l dC dI ca (lAx s.heap.size m0 n1) X hU H z9 229 20 36 (-1) 5 g_z (Or.inr rfl) (by decide) o t1 t2 t3 t4 t5 st z_o1 bytes_1 size_1 f1 g_o hAo g1 g2 g3 g4 g5 hst ⟨z_o1a, z_o1b⟩ (lA9 hM hS.1) hno_4 hno_226 hno_227 hno_228 hno_3 hno_219 hno_204 hno_220 hno_221 hno_222 hno_223 hno_224 hno_225 hfid g_bytes_1 hgd.1 hgd.2.1 hgd.2.2) (cwV 1 hts gL_law_X11_part rfl rfl rfl (by decide +kernel) ⟨Nat.le_of_ble_eq_true rfl, Nat.le_of_ble_eq_true rfl⟩) ⟨fun a U g mk q => by obtain ⟨q0, qH, ⟨qK, qN⟩, qI⟩ := q; exact ⟨q0, qH, ⟨va_K.moved (u := U) (U := U.calling g mk a) (Vm.Alike.refl U.vm) qK, jN_same (U := U.calling g mk a) rfl qN⟩, qI⟩, va_recv hKm (at_P hO) (ci := 11) (q0 := 0) rfl rfl, fun U hU9 hW => ⟨rfl, hU9, jK_warm hW hJ, by rw [hU9]; exact ⟨hI, hO, co_1, c_f1⟩⟩⟩ rfl rfl hl.1 rfl (lv_room (Nat.le_of_ble_eq_true rfl)) dL_law_712 ⟨(by show _ + 277 ≤ 600000; omega), (by show _ + 23025 ≤ 7302250; omega)⟩) hS (fun q _ h => h.1) (fun q h => h.1) (fun r9 u t9 H1 locs1 ht hvm hw hQ hz1 hk1 hS1 => ?_)
      refine lv_pop2_2 hx hb dL_law_715 rfl ?_
      obtain ⟨-, hI1, hO1, hz9⟩ := hQ
      rw [ht] at hI1 hO1 hz9
      have c_z1 := c_z.kept hz9
      obtain ⟨hP, hw, hw2, hw3⟩ := hw
      rw [hw] at hO1
      obtain ⟨Y, u1, pv2⟩ := u
      cases pv2 with
      | none => exact (hw3 rfl).elim
      | some pb =>
        have hX1 : lX (dC, dI) ca s.heap.size m0 n1 o z9 ff (some pb) st H1 := lX_mk hP (by decide) hI1 g_o g1 g2 g3 g4 g5 hw2 hst hO1 ht9 (fun e9 => by cases e9) g_z c_z1
        exact law_m14 C kk hX1 (lM_kept hM hk1) hR hS1 hl ⟨by show cells + 277 + 0 ≤ _; omega, by show slots + 23025 + 0 ≤ _; omega⟩
    · refine va_calll (va_runV (As := [.int (kz z_o1)]) (rest := []) ⟨hx, hb, hml, hown, hts⟩ (j_partBZ l dC dI ca (lAx s.heap.size m0 n1) X hU H z9 229 20 36 (-1) 5 g_z (Or.inr rfl) (by decide) o t1 t2 t3 t4 t5 st z_o1 bytes_1 size_1 f1 g_o hAo g1 g2 g3 g4 g5 hst ⟨z_o1a, z_o1b⟩ g_bytes_1 ⟨size_1a, size_1b⟩ hgd) (cwV 1 hts gL_law_X11_part rfl rfl rfl (by decide +kernel) ⟨Nat.le_of_ble_eq_true rfl, Nat.le_of_ble_eq_true rfl⟩) ⟨fun a U g mk q => by obtain ⟨q0, qH, ⟨qK, qN⟩, qI⟩ := q; exact ⟨q0, qH, ⟨va_K.moved (u := U) (U := U.calling g mk a) (Vm.Alike.refl U.vm) qK, jN_same (U := U.calling g mk a) rfl qN⟩, qI⟩, va_recv hKm (at_P hO) (ci := 11) (q0 := 0) rfl rfl, fun U hU9 hW => ⟨rfl, hU9, jK_warm hW hJ, by rw [hU9]; exact ⟨hI, hO, co_1, c_f1⟩⟩⟩ rfl rfl hl.1 rfl (lv_room (Nat.le_of_ble_eq_true rfl)) dL_law_712 ⟨(by show _ + 0 ≤ 600000; omega), (by show _ + 0 ≤ 7302250; omega)⟩) hS (fun q _ h => h.1) (fun q h => h.1) (fun r9 u t9 H1 locs1 ht hvm hw hQ hz1 hk1 hS1 => ?_)
      refine lv_pop2_2 hx hb dL_law_715 rfl ?_
      obtain ⟨-, hI1, hO1, hz9⟩ := hQ
      rw [ht] at hI1 hO1 hz9
      have c_z1 := c_z.kept hz9
      rw [hw] at hO1
      have hX1 : lX (dC, dI) ca s.heap.size m0 n1 o z9 ff none st H1 := ⟨X, t1, t2, t3, t4, t5, hU, hI1, g_o, g1, g2, g3, g4, g5, hpv, hst, hO1, ht9, hF, g_z, c_z1⟩
      exact law_m14 C kk hX1 (lM_kept hM hk1) hR hS1 hl ⟨by show cells + 0 + 277 ≤ _; omega, by show slots + 0 + 23025 ≤ _; omega⟩
set_option maxHeartbeats 4000000 in
set_option maxRecDepth 100000 in
theorem law_m15 {p : Program} {l : Launch} {e : Env} {s : State} {m : MethodId} {below : List Frame} {meth : Method} {c : Code} {b L : Nat} {xs : Nat → Int32} {dC : Nat → ClassId} {dI : Nat → Nat → Nat} {ca : Nat → ClassId} {o m0 n1 z9 k : Nat} {ff fm : Nat → Int32} (C : lCx p s m meth c b L xs (dC, dI) ca o m0 n1 k) (kk : lKk p l e s m below meth c b (dC, dI) ca o m0 n1 z9 k) {pv : Option Nat} {st : Int} {H : Heap} {locs : List Loc} {ls : Array Slot} {cells slots : Nat} (hX : lX (dC, dI) ca s.heap.size m0 n1 o z9 ff pv st H) (hM : lM (dC, dI) ca m0 n1 fm H) (hR : lR ff fm) (hS : va_S (fun q : Nat => s.heap.size ≤ q) s.heap H locs) (hl : lv_has ls 4 [(3, .int (kz (6 * (k : Int)))), (2, .ref m0), (1, .ref o), (0, .ref b)]) (hB : bud (k + 1) pv cells slots) : W p l e room_1 s m #[Value.ref b] below meth c H locs cells slots (lw_Z below #[Value.ref b] s) (F0 m 739 ls []) := by
  obtain ⟨⟨hx, hb, hr, hml, hown, hts0, hSc, hbl, hlocks, hgv⟩, hL, hJ, hKm, hAo, hAm, hk⟩ := id C
  have hb : c.code = cL_law := hb
  have hown : s.vm.findClass RL = some m.cls := hown
  have hts : ∀ w ∈ wsL_law, w.before #[Value.ref b] s = true := fun w h => hts0 w (wsL_law_in w h)
  have hbA : ¬ (fun q : Nat => s.heap.size ≤ q) b := Nat.not_le.mpr hbl
  obtain ⟨hB1, hB2⟩ := hB
  obtain ⟨Xm, zi, zl, mS9, mZ9, ⟨mI9, mO9⟩, c_m⟩ := id hM
  refine lv_aload_n hx hb dL_law_739 rfl (lv_at hl 1 rfl) ?_
  refine lv_aload_n hx hb dL_law_740 rfl (lv_at hl 3 rfl) ?_
  refine lv_iload_n hx hb dL_law_741 rfl (lv_at hl 0 rfl) ?_
  refine lv_iconst (v := kz 1) hx hb dL_law_742 rfl ?_
  refine iz_iadd hx hb dL_law_743 ?_
  refine va_sld hx hb hSc hbl hbA hS (kz_in (n := L) (z := 6 * (k : Int) + 1) (by omega) (by omega) (by omega)) dL_law_744 ?_
  refine iz_any (fun z_m1 z_m1a z_m1b _ => ?_)
  refine vp_callSl (va_Run.run (va_runV (As := [.int (kz z_m1)]) (rest := []) ⟨hx, hb, hml, hown, hts⟩ (m_parted l dC dI ca (lAm m0 n1) Xm m0 (mam n1) zi zl mS9 mZ9 z_m1 ⟨z_m1a, z_m1b⟩) (cwV 1 hts gL_law_X12_parted rfl rfl rfl (by decide +kernel) ⟨Nat.le_of_ble_eq_true rfl, Nat.le_of_ble_eq_true rfl⟩) ⟨fun a U g mk q => by obtain ⟨q0, qK, qI⟩ := q; exact ⟨q0, va_K.moved (u := U) (U := U.calling g mk a) (Vm.Alike.refl U.vm) qK, qI⟩, va_recv hKm (at_P mO9) (ci := 12) (q0 := 0) rfl rfl, fun U hU9 hW => ⟨rfl, va_K.moved hW.alike hKm, by rw [hU9]; exact ⟨mI9, mO9⟩⟩⟩ rfl rfl hl.1 rfl (lv_room (Nat.le_of_ble_eq_true rfl)) dL_law_745 ⟨(by show _ + 0 ≤ 600000; omega), (by show _ + 0 ≤ 7302250; omega)⟩)) (fun r9 _ => ?_)
  refine lv_pop2_2 hx hb dL_law_748 rfl ?_
  refine lv_goto (tgt := 1022) hx hb dL_law_749 (by decide) ?_
  exact kk ff fm pv st H locs ls cells slots hX hM hR hS hl ⟨hB1, hB2⟩
set_option maxHeartbeats 4000000 in
set_option maxRecDepth 100000 in
theorem law_c15 {p : Program} {l : Launch} {e : Env} {s : State} {m : MethodId} {below : List Frame} {meth : Method} {c : Code} {b L : Nat} {xs : Nat → Int32} {dC : Nat → ClassId} {dI : Nat → Nat → Nat} {ca : Nat → ClassId} {o m0 n1 z9 k : Nat} {ff fm : Nat → Int32} (C : lCx p s m meth c b L xs (dC, dI) ca o m0 n1 k) (kk : lKk p l e s m below meth c b (dC, dI) ca o m0 n1 z9 k) {pv : Option Nat} {st : Int} {H : Heap} {locs : List Loc} {ls : Array Slot} {cells slots : Nat} (hX : lX (dC, dI) ca s.heap.size m0 n1 o z9 ff pv st H) (hM : lM (dC, dI) ca m0 n1 fm H) (hR : lR ff fm) (hS : va_S (fun q : Nat => s.heap.size ≤ q) s.heap H locs) (hl : lv_has ls 4 [(3, .int (kz (6 * (k : Int)))), (2, .ref m0), (1, .ref o), (0, .ref b)]) (hB : bud k pv cells slots) : W p l e room_1 s m #[Value.ref b] below meth c H locs cells slots (lw_Z below #[Value.ref b] s) (F0 m 729 ls []) := by
  obtain ⟨⟨hx, hb, hr, hml, hown, hts0, hSc, hbl, hlocks, hgv⟩, hL, hJ, hKm, hAo, hAm, hk⟩ := id C
  have hb : c.code = cL_law := hb
  have hown : s.vm.findClass RL = some m.cls := hown
  have hts : ∀ w ∈ wsL_law, w.before #[Value.ref b] s = true := fun w h => hts0 w (wsL_law_in w h)
  have hbA : ¬ (fun q : Nat => s.heap.size ≤ q) b := Nat.not_le.mpr hbl
  obtain ⟨hB1, hB2⟩ := hB
  obtain ⟨X, t1, t2, t3, t4, t5, hU, hI, g_o, g1, g2, g3, g4, g5, hpv, hst, hO, ht9, hF, g_z, c_z⟩ := id hX
  refine lv_aload_n hx hb dL_law_729 rfl (lv_at hl 2 rfl) ?_
  refine lv_aload_n hx hb dL_law_730 rfl (lv_at hl 3 rfl) ?_
  refine lv_iload_n hx hb dL_law_731 rfl (lv_at hl 0 rfl) ?_
  refine lv_iconst (v := kz 1) hx hb dL_law_732 rfl ?_
  refine iz_iadd hx hb dL_law_733 ?_
  refine va_sld hx hb hSc hbl hbA hS (kz_in (n := L) (z := 6 * (k : Int) + 1) (by omega) (by omega) (by omega)) dL_law_734 ?_
  refine iz_any (fun z_o1 z_o1a z_o1b _ => ?_)
  refine vp_callSl (va_Run.run (va_runV (As := [.int (kz z_o1)]) (rest := []) ⟨hx, hb, hml, hown, hts⟩ (j_parted l dC dI ca (lAx s.heap.size m0 n1) X hU o t1 t2 t3 t4 t5 pv st z_o1 g_o hAo g1 g2 g3 g4 g5 hpv hst ⟨z_o1a, z_o1b⟩) (cwV 1 hts gL_law_X11_parted rfl rfl rfl (by decide +kernel) ⟨Nat.le_of_ble_eq_true rfl, Nat.le_of_ble_eq_true rfl⟩) ⟨fun a U g mk q => by obtain ⟨q0, ⟨qK, qN⟩, qI⟩ := q; exact ⟨q0, ⟨va_K.moved (u := U) (U := U.calling g mk a) (Vm.Alike.refl U.vm) qK, jN_same (U := U.calling g mk a) rfl qN⟩, qI⟩, va_recv hKm (at_P hO) (ci := 11) (q0 := 0) rfl rfl, fun U hU9 hW => ⟨rfl, jK_warm hW hJ, by rw [hU9]; exact ⟨hI, hO⟩⟩⟩ rfl rfl hl.1 rfl (lv_room (Nat.le_of_ble_eq_true rfl)) dL_law_735 ⟨(by show _ + 0 ≤ 600000; omega), (by show _ + 0 ≤ 7302250; omega)⟩)) (fun r9 _ => ?_)
  refine lv_pop2_2 hx hb dL_law_738 rfl ?_
  exact law_m15 C kk hX hM hR hS hl ⟨by omega, by omega⟩
set_option maxHeartbeats 4000000 in
set_option maxRecDepth 100000 in
theorem law_m16 {p : Program} {l : Launch} {e : Env} {s : State} {m : MethodId} {below : List Frame} {meth : Method} {c : Code} {b L : Nat} {xs : Nat → Int32} {dC : Nat → ClassId} {dI : Nat → Nat → Nat} {ca : Nat → ClassId} {o m0 n1 z9 k : Nat} {ff fm : Nat → Int32} (C : lCx p s m meth c b L xs (dC, dI) ca o m0 n1 k) (kk : lKk p l e s m below meth c b (dC, dI) ca o m0 n1 z9 k) {pv : Option Nat} {st : Int} {H : Heap} {locs : List Loc} {ls : Array Slot} {cells slots : Nat} (hX : lX (dC, dI) ca s.heap.size m0 n1 o z9 ff pv st H) (hM : lM (dC, dI) ca m0 n1 fm H) (hR : lR ff fm) (hS : va_S (fun q : Nat => s.heap.size ≤ q) s.heap H locs) (hl : lv_has ls 4 [(3, .int (kz (6 * (k : Int)))), (2, .ref m0), (1, .ref o), (0, .ref b)]) (hB : bud (k + 1) pv cells slots) : W p l e room_1 s m #[Value.ref b] below meth c H locs cells slots (lw_Z below #[Value.ref b] s) (F0 m 767 ls []) := by
  obtain ⟨⟨hx, hb, hr, hml, hown, hts0, hSc, hbl, hlocks, hgv⟩, hL, hJ, hKm, hAo, hAm, hk⟩ := id C
  have hb : c.code = cL_law := hb
  have hown : s.vm.findClass RL = some m.cls := hown
  have hts : ∀ w ∈ wsL_law, w.before #[Value.ref b] s = true := fun w h => hts0 w (wsL_law_in w h)
  have hbA : ¬ (fun q : Nat => s.heap.size ≤ q) b := Nat.not_le.mpr hbl
  obtain ⟨hB1, hB2⟩ := hB
  obtain ⟨Xm, zi, zl, mS9, mZ9, ⟨mI9, mO9⟩, c_m⟩ := id hM
  refine lv_aload_n hx hb dL_law_767 rfl (lv_at hl 1 rfl) ?_
  refine lv_aload_n hx hb dL_law_768 rfl (lv_at hl 3 rfl) ?_
  refine lv_iload_n hx hb dL_law_769 rfl (lv_at hl 0 rfl) ?_
  refine lv_iconst (v := kz 1) hx hb dL_law_770 rfl ?_
  refine iz_iadd hx hb dL_law_771 ?_
  refine va_sld hx hb hSc hbl hbA hS (kz_in (n := L) (z := 6 * (k : Int) + 1) (by omega) (by omega) (by omega)) dL_law_772 ?_
  refine iz_any (fun z_m1 z_m1a z_m1b _ => ?_)
  refine lv_aload_n hx hb dL_law_773 rfl (lv_at hl 3 rfl) ?_
  refine lv_iload_n hx hb dL_law_774 rfl (lv_at hl 0 rfl) ?_
  refine lv_iconst (v := kz 2) hx hb dL_law_775 rfl ?_
  refine iz_iadd hx hb dL_law_776 ?_
  refine va_sld hx hb hSc hbl hbA hS (kz_in (n := L) (z := 6 * (k : Int) + 2) (by omega) (by omega) (by omega)) dL_law_777 ?_
  refine iz_any (fun z_m2 z_m2a z_m2b _ => ?_)
  refine vp_callSi (va_Run.run (va_runV (As := [.int (kz z_m1), .int (kz z_m2)]) (rest := []) ⟨hx, hb, hml, hown, hts⟩ (m_parting l dC dI ca (lAm m0 n1) Xm m0 (mam n1) zi zl mS9 mZ9 z_m1 z_m2 ⟨z_m1a, z_m1b⟩ ⟨z_m2a, z_m2b⟩) (cwV 2 hts gL_law_X12_parting rfl rfl rfl (by decide +kernel) ⟨Nat.le_of_ble_eq_true rfl, Nat.le_of_ble_eq_true rfl⟩) ⟨fun a U g mk q => by obtain ⟨q0, qK, qI⟩ := q; exact ⟨q0, va_K.moved (u := U) (U := U.calling g mk a) (Vm.Alike.refl U.vm) qK, qI⟩, va_recv hKm (at_P mO9) (ci := 12) (q0 := 0) rfl rfl, fun U hU9 hW => ⟨rfl, va_K.moved hW.alike hKm, by rw [hU9]; exact ⟨mI9, mO9⟩⟩⟩ rfl rfl hl.1 rfl (lv_room (Nat.le_of_ble_eq_true rfl)) dL_law_778 ⟨(by show _ + 0 ≤ 600000; omega), (by show _ + 0 ≤ 7302250; omega)⟩)) (fun r9 _ => ?_)
  refine lv_pop hx hb dL_law_781 rfl ?_
  refine lv_goto (tgt := 1022) hx hb dL_law_782 (by decide) ?_
  exact kk ff fm pv st H locs ls cells slots hX hM hR hS hl ⟨hB1, hB2⟩
set_option maxHeartbeats 4000000 in
set_option maxRecDepth 100000 in
theorem law_c16 {p : Program} {l : Launch} {e : Env} {s : State} {m : MethodId} {below : List Frame} {meth : Method} {c : Code} {b L : Nat} {xs : Nat → Int32} {dC : Nat → ClassId} {dI : Nat → Nat → Nat} {ca : Nat → ClassId} {o m0 n1 z9 k : Nat} {ff fm : Nat → Int32} (C : lCx p s m meth c b L xs (dC, dI) ca o m0 n1 k) (kk : lKk p l e s m below meth c b (dC, dI) ca o m0 n1 z9 k) {pv : Option Nat} {st : Int} {H : Heap} {locs : List Loc} {ls : Array Slot} {cells slots : Nat} (hX : lX (dC, dI) ca s.heap.size m0 n1 o z9 ff pv st H) (hM : lM (dC, dI) ca m0 n1 fm H) (hR : lR ff fm) (hS : va_S (fun q : Nat => s.heap.size ≤ q) s.heap H locs) (hl : lv_has ls 4 [(3, .int (kz (6 * (k : Int)))), (2, .ref m0), (1, .ref o), (0, .ref b)]) (hB : bud k pv cells slots) : W p l e room_1 s m #[Value.ref b] below meth c H locs cells slots (lw_Z below #[Value.ref b] s) (F0 m 752 ls []) := by
  obtain ⟨⟨hx, hb, hr, hml, hown, hts0, hSc, hbl, hlocks, hgv⟩, hL, hJ, hKm, hAo, hAm, hk⟩ := id C
  have hb : c.code = cL_law := hb
  have hown : s.vm.findClass RL = some m.cls := hown
  have hts : ∀ w ∈ wsL_law, w.before #[Value.ref b] s = true := fun w h => hts0 w (wsL_law_in w h)
  have hbA : ¬ (fun q : Nat => s.heap.size ≤ q) b := Nat.not_le.mpr hbl
  obtain ⟨hB1, hB2⟩ := hB
  obtain ⟨X, t1, t2, t3, t4, t5, hU, hI, g_o, g1, g2, g3, g4, g5, hpv, hst, hO, ht9, hF, g_z, c_z⟩ := id hX
  refine lv_aload_n hx hb dL_law_752 rfl (lv_at hl 2 rfl) ?_
  refine lv_aload_n hx hb dL_law_753 rfl (lv_at hl 3 rfl) ?_
  refine lv_iload_n hx hb dL_law_754 rfl (lv_at hl 0 rfl) ?_
  refine lv_iconst (v := kz 1) hx hb dL_law_755 rfl ?_
  refine iz_iadd hx hb dL_law_756 ?_
  refine va_sld hx hb hSc hbl hbA hS (kz_in (n := L) (z := 6 * (k : Int) + 1) (by omega) (by omega) (by omega)) dL_law_757 ?_
  refine iz_any (fun z_o1 z_o1a z_o1b _ => ?_)
  refine lv_aload_n hx hb dL_law_758 rfl (lv_at hl 3 rfl) ?_
  refine lv_iload_n hx hb dL_law_759 rfl (lv_at hl 0 rfl) ?_
  refine lv_iconst (v := kz 2) hx hb dL_law_760 rfl ?_
  refine iz_iadd hx hb dL_law_761 ?_
  refine va_sld hx hb hSc hbl hbA hS (kz_in (n := L) (z := 6 * (k : Int) + 2) (by omega) (by omega) (by omega)) dL_law_762 ?_
  refine iz_any (fun z_o2 z_o2a z_o2b _ => ?_)
  refine vp_callSi (va_Run.run (va_runV (As := [.int (kz z_o1), .int (kz z_o2)]) (rest := []) ⟨hx, hb, hml, hown, hts⟩ (j_parting l dC dI ca (lAx s.heap.size m0 n1) X hU o t1 t2 t3 t4 t5 pv st z_o1 z_o2 g_o hAo g1 g2 g3 g4 g5 hpv hst ⟨z_o1a, z_o1b⟩ ⟨z_o2a, z_o2b⟩) (cwV 2 hts gL_law_X11_parting rfl rfl rfl (by decide +kernel) ⟨Nat.le_of_ble_eq_true rfl, Nat.le_of_ble_eq_true rfl⟩) ⟨fun a U g mk q => by obtain ⟨q0, ⟨qK, qN⟩, qI⟩ := q; exact ⟨q0, ⟨va_K.moved (u := U) (U := U.calling g mk a) (Vm.Alike.refl U.vm) qK, jN_same (U := U.calling g mk a) rfl qN⟩, qI⟩, va_recv hKm (at_P hO) (ci := 11) (q0 := 0) rfl rfl, fun U hU9 hW => ⟨rfl, jK_warm hW hJ, by rw [hU9]; exact ⟨hI, hO⟩⟩⟩ rfl rfl hl.1 rfl (lv_room (Nat.le_of_ble_eq_true rfl)) dL_law_763 ⟨(by show _ + 0 ≤ 600000; omega), (by show _ + 0 ≤ 7302250; omega)⟩)) (fun r9 _ => ?_)
  refine lv_pop hx hb dL_law_766 rfl ?_
  exact law_m16 C kk hX hM hR hS hl ⟨by omega, by omega⟩
set_option maxHeartbeats 4000000 in
set_option maxRecDepth 100000 in
theorem law_m17 {p : Program} {l : Launch} {e : Env} {s : State} {m : MethodId} {below : List Frame} {meth : Method} {c : Code} {b L : Nat} {xs : Nat → Int32} {dC : Nat → ClassId} {dI : Nat → Nat → Nat} {ca : Nat → ClassId} {o m0 n1 z9 k : Nat} {ff fm : Nat → Int32} (C : lCx p s m meth c b L xs (dC, dI) ca o m0 n1 k) (kk : lKk p l e s m below meth c b (dC, dI) ca o m0 n1 z9 k) {pv : Option Nat} {st : Int} {H : Heap} {locs : List Loc} {ls : Array Slot} {cells slots : Nat} (hX : lX (dC, dI) ca s.heap.size m0 n1 o z9 ff pv st H) (hM : lM (dC, dI) ca m0 n1 fm H) (hR : lR ff fm) (hS : va_S (fun q : Nat => s.heap.size ≤ q) s.heap H locs) (hl : lv_has ls 4 [(3, .int (kz (6 * (k : Int)))), (2, .ref m0), (1, .ref o), (0, .ref b)]) (hB : bud (k + 1) pv cells slots) : W p l e room_1 s m #[Value.ref b] below meth c H locs cells slots (lw_Z below #[Value.ref b] s) (F0 m 800 ls []) := by
  obtain ⟨⟨hx, hb, hr, hml, hown, hts0, hSc, hbl, hlocks, hgv⟩, hL, hJ, hKm, hAo, hAm, hk⟩ := id C
  have hb : c.code = cL_law := hb
  have hown : s.vm.findClass RL = some m.cls := hown
  have hts : ∀ w ∈ wsL_law, w.before #[Value.ref b] s = true := fun w h => hts0 w (wsL_law_in w h)
  have hbA : ¬ (fun q : Nat => s.heap.size ≤ q) b := Nat.not_le.mpr hbl
  obtain ⟨hB1, hB2⟩ := hB
  obtain ⟨Xm, zi, zl, mS9, mZ9, ⟨mI9, mO9⟩, c_m⟩ := id hM
  refine lv_aload_n hx hb dL_law_800 rfl (lv_at hl 1 rfl) ?_
  refine lv_aload_n hx hb dL_law_801 rfl (lv_at hl 3 rfl) ?_
  refine lv_iload_n hx hb dL_law_802 rfl (lv_at hl 0 rfl) ?_
  refine lv_iconst (v := kz 1) hx hb dL_law_803 rfl ?_
  refine iz_iadd hx hb dL_law_804 ?_
  refine va_sld hx hb hSc hbl hbA hS (kz_in (n := L) (z := 6 * (k : Int) + 1) (by omega) (by omega) (by omega)) dL_law_805 ?_
  refine iz_any (fun z_m1 z_m1a z_m1b _ => ?_)
  refine lv_aload_n hx hb dL_law_806 rfl (lv_at hl 3 rfl) ?_
  refine lv_iload_n hx hb dL_law_807 rfl (lv_at hl 0 rfl) ?_
  refine lv_iconst (v := kz 2) hx hb dL_law_808 rfl ?_
  refine iz_iadd hx hb dL_law_809 ?_
  refine va_sld hx hb hSc hbl hbA hS (kz_in (n := L) (z := 6 * (k : Int) + 2) (by omega) (by omega) (by omega)) dL_law_810 ?_
  refine iz_any (fun z_m2 z_m2a z_m2b _ => ?_)
  refine vp_callSi (va_Run.run (va_runV (As := [.int (kz z_m1), .int (kz z_m2)]) (rest := []) ⟨hx, hb, hml, hown, hts⟩ (m_formOf l dC dI ca (lAm m0 n1) Xm m0 (mam n1) zi zl mS9 mZ9 z_m1 z_m2 ⟨z_m1a, z_m1b⟩ ⟨z_m2a, z_m2b⟩) (cwV 2 hts gL_law_X12_formOf rfl rfl rfl (by decide +kernel) ⟨Nat.le_of_ble_eq_true rfl, Nat.le_of_ble_eq_true rfl⟩) ⟨fun a U g mk q => by obtain ⟨q0, qK, qI⟩ := q; exact ⟨q0, va_K.moved (u := U) (U := U.calling g mk a) (Vm.Alike.refl U.vm) qK, qI⟩, va_recv hKm (at_P mO9) (ci := 12) (q0 := 0) rfl rfl, fun U hU9 hW => ⟨rfl, va_K.moved hW.alike hKm, by rw [hU9]; exact ⟨mI9, mO9⟩⟩⟩ rfl rfl hl.1 rfl (lv_room (Nat.le_of_ble_eq_true rfl)) dL_law_811 ⟨(by show _ + 0 ≤ 600000; omega), (by show _ + 0 ≤ 7302250; omega)⟩)) (fun r9 _ => ?_)
  refine lv_pop hx hb dL_law_814 rfl ?_
  refine lv_goto (tgt := 1022) hx hb dL_law_815 (by decide) ?_
  exact kk ff fm pv st H locs ls cells slots hX hM hR hS hl ⟨hB1, hB2⟩
set_option maxHeartbeats 4000000 in
set_option maxRecDepth 100000 in
theorem law_c17 {p : Program} {l : Launch} {e : Env} {s : State} {m : MethodId} {below : List Frame} {meth : Method} {c : Code} {b L : Nat} {xs : Nat → Int32} {dC : Nat → ClassId} {dI : Nat → Nat → Nat} {ca : Nat → ClassId} {o m0 n1 z9 k : Nat} {ff fm : Nat → Int32} (C : lCx p s m meth c b L xs (dC, dI) ca o m0 n1 k) (kk : lKk p l e s m below meth c b (dC, dI) ca o m0 n1 z9 k) {pv : Option Nat} {st : Int} {H : Heap} {locs : List Loc} {ls : Array Slot} {cells slots : Nat} (hX : lX (dC, dI) ca s.heap.size m0 n1 o z9 ff pv st H) (hM : lM (dC, dI) ca m0 n1 fm H) (hR : lR ff fm) (hS : va_S (fun q : Nat => s.heap.size ≤ q) s.heap H locs) (hl : lv_has ls 4 [(3, .int (kz (6 * (k : Int)))), (2, .ref m0), (1, .ref o), (0, .ref b)]) (hB : bud k pv cells slots) : W p l e room_1 s m #[Value.ref b] below meth c H locs cells slots (lw_Z below #[Value.ref b] s) (F0 m 785 ls []) := by
  obtain ⟨⟨hx, hb, hr, hml, hown, hts0, hSc, hbl, hlocks, hgv⟩, hL, hJ, hKm, hAo, hAm, hk⟩ := id C
  have hb : c.code = cL_law := hb
  have hown : s.vm.findClass RL = some m.cls := hown
  have hts : ∀ w ∈ wsL_law, w.before #[Value.ref b] s = true := fun w h => hts0 w (wsL_law_in w h)
  have hbA : ¬ (fun q : Nat => s.heap.size ≤ q) b := Nat.not_le.mpr hbl
  obtain ⟨hB1, hB2⟩ := hB
  obtain ⟨X, t1, t2, t3, t4, t5, hU, hI, g_o, g1, g2, g3, g4, g5, hpv, hst, hO, ht9, hF, g_z, c_z⟩ := id hX
  refine lv_aload_n hx hb dL_law_785 rfl (lv_at hl 2 rfl) ?_
  refine lv_aload_n hx hb dL_law_786 rfl (lv_at hl 3 rfl) ?_
  refine lv_iload_n hx hb dL_law_787 rfl (lv_at hl 0 rfl) ?_
  refine lv_iconst (v := kz 1) hx hb dL_law_788 rfl ?_
  refine iz_iadd hx hb dL_law_789 ?_
  refine va_sld hx hb hSc hbl hbA hS (kz_in (n := L) (z := 6 * (k : Int) + 1) (by omega) (by omega) (by omega)) dL_law_790 ?_
  refine iz_any (fun z_o1 z_o1a z_o1b _ => ?_)
  refine lv_aload_n hx hb dL_law_791 rfl (lv_at hl 3 rfl) ?_
  refine lv_iload_n hx hb dL_law_792 rfl (lv_at hl 0 rfl) ?_
  refine lv_iconst (v := kz 2) hx hb dL_law_793 rfl ?_
  refine iz_iadd hx hb dL_law_794 ?_
  refine va_sld hx hb hSc hbl hbA hS (kz_in (n := L) (z := 6 * (k : Int) + 2) (by omega) (by omega) (by omega)) dL_law_795 ?_
  refine iz_any (fun z_o2 z_o2a z_o2b _ => ?_)
  refine vp_callSi (va_Run.run (va_runV (As := [.int (kz z_o1), .int (kz z_o2)]) (rest := []) ⟨hx, hb, hml, hown, hts⟩ (j_formOf l dC dI ca (lAx s.heap.size m0 n1) X hU o t1 t2 t3 t4 t5 pv st z_o1 z_o2 g_o hAo g1 g2 g3 g4 g5 hpv hst ⟨z_o1a, z_o1b⟩ ⟨z_o2a, z_o2b⟩) (cwV 2 hts gL_law_X11_formOf rfl rfl rfl (by decide +kernel) ⟨Nat.le_of_ble_eq_true rfl, Nat.le_of_ble_eq_true rfl⟩) ⟨fun a U g mk q => by obtain ⟨q0, ⟨qK, qN⟩, qI⟩ := q; exact ⟨q0, ⟨va_K.moved (u := U) (U := U.calling g mk a) (Vm.Alike.refl U.vm) qK, jN_same (U := U.calling g mk a) rfl qN⟩, qI⟩, va_recv hKm (at_P hO) (ci := 11) (q0 := 0) rfl rfl, fun U hU9 hW => ⟨rfl, jK_warm hW hJ, by rw [hU9]; exact ⟨hI, hO⟩⟩⟩ rfl rfl hl.1 rfl (lv_room (Nat.le_of_ble_eq_true rfl)) dL_law_796 ⟨(by show _ + 0 ≤ 600000; omega), (by show _ + 0 ≤ 7302250; omega)⟩)) (fun r9 _ => ?_)
  refine lv_pop hx hb dL_law_799 rfl ?_
  exact law_m17 C kk hX hM hR hS hl ⟨by omega, by omega⟩
