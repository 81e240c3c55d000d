set_option maxHeartbeats 4000000 in
set_option maxRecDepth 100000 in
theorem law_m0 {p : Program} {l : Launch} {e : Env} {s : State} {m : MethodId} {below : List Frame} {meth : Method} {c : Code} {b L : Nat} {xs : Nat → Int32} {dC : Nat → ClassId} {dI : Nat → Nat → Nat} {ca : Nat → ClassId} {o m0 n1 z9 k : Nat} {ff fm : Nat → Int32} (C : lCx p s m meth c b L xs (dC, dI) ca o m0 n1 k) (kk : lKk p l e s m below meth c b (dC, dI) ca o m0 n1 z9 k) {pv : Option Nat} {st : Int} {H : Heap} {locs : List Loc} {ls : Array Slot} {cells slots : Nat} (hX : lX (dC, dI) ca s.heap.size m0 n1 o z9 ff pv st H) (hM : lM (dC, dI) ca m0 n1 fm H) (hR : lR ff fm) (hS : va_S (fun q : Nat => s.heap.size ≤ q) s.heap H locs) (hl : lv_has ls 4 [(3, .int (kz (6 * (k : Int)))), (2, .ref m0), (1, .ref o), (0, .ref b)]) (hB : bud (k + 1) pv cells slots) : W p l e room_1 s m #[Value.ref b] below meth c H locs cells slots (lw_Z below #[Value.ref b] s) (F0 m 182 ls []) := by
  obtain ⟨⟨hx, hb, hr, hml, hown, hts0, hSc, hbl, hlocks, hgv⟩, hL, hJ, hKm, hAo, hAm, hk⟩ := id C
  have hb : c.code = cL_law := hb
  have hown : s.vm.findClass RL = some m.cls := hown
  have hts : ∀ w ∈ wsL_law, w.before #[Value.ref b] s = true := fun w h => hts0 w (wsL_law_in w h)
  have hbA : ¬ (fun q : Nat => s.heap.size ≤ q) b := Nat.not_le.mpr hbl
  obtain ⟨hB1, hB2⟩ := hB
  obtain ⟨Xm, zi, zl, mS9, mZ9, ⟨mI9, mO9⟩, c_m⟩ := id hM
  refine lv_aload_n hx hb dL_law_182 rfl (lv_at hl 1 rfl) ?_
  refine lv_aload_n hx hb dL_law_183 rfl (lv_at hl 3 rfl) ?_
  refine lv_iload_n hx hb dL_law_184 rfl (lv_at hl 0 rfl) ?_
  refine lv_iconst (v := kz 1) hx hb dL_law_185 rfl ?_
  refine iz_iadd hx hb dL_law_186 ?_
  refine va_sld hx hb hSc hbl hbA hS (kz_in (n := L) (z := 6 * (k : Int) + 1) (by omega) (by omega) (by omega)) dL_law_187 ?_
  refine iz_any (fun z_m1 z_m1a z_m1b _ => ?_)
  refine lv_aload_n hx hb dL_law_188 rfl (lv_at hl 3 rfl) ?_
  refine lv_iload_n hx hb dL_law_189 rfl (lv_at hl 0 rfl) ?_
  refine lv_iconst (v := kz 2) hx hb dL_law_190 rfl ?_
  refine iz_iadd hx hb dL_law_191 ?_
  refine va_sld hx hb hSc hbl hbA hS (kz_in (n := L) (z := 6 * (k : Int) + 2) (by omega) (by omega) (by omega)) dL_law_192 ?_
  refine iz_any (fun z_m2 z_m2a z_m2b _ => ?_)
  refine lv_aload_n hx hb dL_law_193 rfl (lv_at hl 3 rfl) ?_
  refine lv_iload_n hx hb dL_law_194 rfl (lv_at hl 0 rfl) ?_
  refine lv_iconst (v := kz 3) hx hb dL_law_195 rfl ?_
  refine iz_iadd hx hb dL_law_196 ?_
  refine va_sld hx hb hSc hbl hbA hS (kz_in (n := L) (z := 6 * (k : Int) + 3) (by omega) (by omega) (by omega)) dL_law_197 ?_
  refine iz_any (fun z_m3 z_m3a z_m3b _ => ?_)
  refine lv_aload_n hx hb dL_law_198 rfl (lv_at hl 3 rfl) ?_
  refine lv_iload_n hx hb dL_law_199 rfl (lv_at hl 0 rfl) ?_
  refine lv_iconst (v := kz 4) hx hb dL_law_200 rfl ?_
  refine iz_iadd hx hb dL_law_201 ?_
  refine va_sld hx hb hSc hbl hbA hS (kz_in (n := L) (z := 6 * (k : Int) + 4) (by omega) (by omega) (by omega)) dL_law_202 ?_
  refine iz_any (fun z_m4 z_m4a z_m4b _ => ?_)
  refine lv_aload_n hx hb dL_law_203 rfl (lv_at hl 3 rfl) ?_
  refine lv_iload_n hx hb dL_law_204 rfl (lv_at hl 0 rfl) ?_
  refine lv_iconst (v := kz 5) hx hb dL_law_205 rfl ?_
  refine iz_iadd hx hb dL_law_206 ?_
  refine va_sld hx hb hSc hbl hbA hS (kz_in (n := L) (z := 6 * (k : Int) + 5) (by omega) (by omega) (by omega)) dL_law_207 ?_
  refine iz_any (fun z_m5 z_m5a z_m5b _ => ?_)
  refine va_calli (va_runV (As := [.int (kz z_m1), .int (kz z_m2), .int (kz z_m3), .int (kz z_m4), .int (kz z_m5)]) (rest := []) ⟨hx, hb, hml, hown, hts⟩ (m_feedF l dC dI ca (lAm m0 n1) Xm m0 (mam n1) 18 (Or.inr rfl) zi zl mS9 mZ9 z_m1 z_m2 z_m3 z_m4 z_m5) (cwV 5 hts gL_law_X12_feed rfl rfl rfl (by decide +kernel) ⟨Nat.le_of_ble_eq_true rfl, Nat.le_of_ble_eq_true rfl⟩) ⟨fun a U g mk q => by obtain ⟨q0, qK, qI⟩ := q; exact ⟨q0, va_K.moved (u := U) (U := U.calling g mk a) (Vm.Alike.refl U.vm) qK, qI⟩, va_recv hKm (at_P mO9) (ci := 12) (q0 := 0) rfl rfl, fun U hU9 hW => ⟨rfl, va_K.moved hW.alike hKm, by rw [hU9]; exact ⟨mI9, mO9⟩⟩⟩ rfl rfl hl.1 rfl (lv_room (Nat.le_of_ble_eq_true rfl)) dL_law_208 ⟨(by show _ + 0 ≤ 600000; omega), (by show _ + 0 ≤ 7302250; omega)⟩) hS (fun q _ h => hAm q h.1) (fun q h => hAm q h.1) (fun r9 u t9 H1 locs1 ht hvm hw hQ hz1 hk1 hS1 => ?_)
  refine lv_pop hx hb dL_law_211 rfl ?_
  refine lv_goto (tgt := 1022) hx hb dL_law_212 (by decide) ?_
  obtain ⟨-, mI1⟩ := hQ
  rw [ht] at mI1
  have hM1 : lM (dC, dI) ca m0 n1 fm H1 := ⟨Xm, u.1, u.2, mS9, hw.1, mI1, c_m.kept (hk1 _ c_m.lt (fun h9 => h9.2 rfl))⟩
  exact kk ff fm pv st H1 locs1 ls cells slots (lX_kept hX hAo (fun q h1 h2 => hk1 q h1 (fun h => h2 h.1))) hM1 hR hS1 hl ⟨hB1, hB2⟩
set_option maxHeartbeats 4000000 in
set_option maxRecDepth 100000 in
theorem law_c0 {p : Program} {l : Launch} {e : Env} {s : State} {m : MethodId} {below : List Frame} {meth : Method} {c : Code} {b L : Nat} {xs : Nat → Int32} {dC : Nat → ClassId} {dI : Nat → Nat → Nat} {ca : Nat → ClassId} {o m0 n1 z9 k : Nat} {ff fm : Nat → Int32} (C : lCx p s m meth c b L xs (dC, dI) ca o m0 n1 k) (kk : lKk p l e s m below meth c b (dC, dI) ca o m0 n1 z9 k) {pv : Option Nat} {st : Int} {H : Heap} {locs : List Loc} {ls : Array Slot} {cells slots : Nat} (hX : lX (dC, dI) ca s.heap.size m0 n1 o z9 ff pv st H) (hM : lM (dC, dI) ca m0 n1 fm H) (hR : lR ff fm) (hS : va_S (fun q : Nat => s.heap.size ≤ q) s.heap H locs) (hl : lv_has ls 4 [(3, .int (kz (6 * (k : Int)))), (2, .ref m0), (1, .ref o), (0, .ref b)]) (hB : bud k pv cells slots) : W p l e room_1 s m #[Value.ref b] below meth c H locs cells slots (lw_Z below #[Value.ref b] s) (F0 m 152 ls []) := by
  obtain ⟨⟨hx, hb, hr, hml, hown, hts0, hSc, hbl, hlocks, hgv⟩, hL, hJ, hKm, hAo, hAm, hk⟩ := id C
  have hb : c.code = cL_law := hb
  have hown : s.vm.findClass RL = some m.cls := hown
  have hts : ∀ w ∈ wsL_law, w.before #[Value.ref b] s = true := fun w h => hts0 w (wsL_law_in w h)
  have hbA : ¬ (fun q : Nat => s.heap.size ≤ q) b := Nat.not_le.mpr hbl
  obtain ⟨hB1, hB2⟩ := hB
  obtain ⟨X, t1, t2, t3, t4, t5, hU, hI, g_o, g1, g2, g3, g4, g5, hpv, hst, hO, ht9, hF, g_z, c_z⟩ := id hX
  refine lv_aload_n hx hb dL_law_152 rfl (lv_at hl 2 rfl) ?_
  refine lv_aload_n hx hb dL_law_153 rfl (lv_at hl 3 rfl) ?_
  refine lv_iload_n hx hb dL_law_154 rfl (lv_at hl 0 rfl) ?_
  refine lv_iconst (v := kz 1) hx hb dL_law_155 rfl ?_
  refine iz_iadd hx hb dL_law_156 ?_
  refine va_sld hx hb hSc hbl hbA hS (kz_in (n := L) (z := 6 * (k : Int) + 1) (by omega) (by omega) (by omega)) dL_law_157 ?_
  refine iz_any (fun z_o1 z_o1a z_o1b _ => ?_)
  refine lv_aload_n hx hb dL_law_158 rfl (lv_at hl 3 rfl) ?_
  refine lv_iload_n hx hb dL_law_159 rfl (lv_at hl 0 rfl) ?_
  refine lv_iconst (v := kz 2) hx hb dL_law_160 rfl ?_
  refine iz_iadd hx hb dL_law_161 ?_
  refine va_sld hx hb hSc hbl hbA hS (kz_in (n := L) (z := 6 * (k : Int) + 2) (by omega) (by omega) (by omega)) dL_law_162 ?_
  refine iz_any (fun z_o2 z_o2a z_o2b _ => ?_)
  refine lv_aload_n hx hb dL_law_163 rfl (lv_at hl 3 rfl) ?_
  refine lv_iload_n hx hb dL_law_164 rfl (lv_at hl 0 rfl) ?_
  refine lv_iconst (v := kz 3) hx hb dL_law_165 rfl ?_
  refine iz_iadd hx hb dL_law_166 ?_
  refine va_sld hx hb hSc hbl hbA hS (kz_in (n := L) (z := 6 * (k : Int) + 3) (by omega) (by omega) (by omega)) dL_law_167 ?_
  refine iz_any (fun z_o3 z_o3a z_o3b _ => ?_)
  refine lv_aload_n hx hb dL_law_168 rfl (lv_at hl 3 rfl) ?_
  refine lv_iload_n hx hb dL_law_169 rfl (lv_at hl 0 rfl) ?_
  refine lv_iconst (v := kz 4) hx hb dL_law_170 rfl ?_
  refine iz_iadd hx hb dL_law_171 ?_
  refine va_sld hx hb hSc hbl hbA hS (kz_in (n := L) (z := 6 * (k : Int) + 4) (by omega) (by omega) (by omega)) dL_law_172 ?_
  refine iz_any (fun z_o4 z_o4a z_o4b _ => ?_)
  refine lv_aload_n hx hb dL_law_173 rfl (lv_at hl 3 rfl) ?_
  refine lv_iload_n hx hb dL_law_174 rfl (lv_at hl 0 rfl) ?_
  refine lv_iconst (v := kz 5) hx hb dL_law_175 rfl ?_
  refine iz_iadd hx hb dL_law_176 ?_
  refine va_sld hx hb hSc hbl hbA hS (kz_in (n := L) (z := 6 * (k : Int) + 5) (by omega) (by omega) (by omega)) dL_law_177 ?_
  refine iz_any (fun z_o5 z_o5a z_o5b _ => ?_)
  refine va_calli (va_runV (As := [.int (kz z_o1), .int (kz z_o2), .int (kz z_o3), .int (kz z_o4), .int (kz z_o5)]) (rest := []) ⟨hx, hb, hml, hown, hts⟩ (j_feedZ l dC dI ca (lAx s.heap.size m0 n1) X hU H z9 229 20 36 (-1) 5 g_z (Or.inr rfl) (by decide) o t1 t2 t3 t4 t5 pv st z_o1 z_o2 z_o3 z_o4 z_o5 g_o hAo g1 g2 g3 g4 g5 hpv hst) (cwV 5 hts gL_law_X11_feed rfl rfl rfl (by decide +kernel) ⟨Nat.le_of_ble_eq_true rfl, Nat.le_of_ble_eq_true rfl⟩) ⟨fun a U g mk q => by obtain ⟨q0, qH, ⟨qK, qN⟩, qI⟩ := q; exact ⟨q0, qH, ⟨va_K.moved (u := U) (U := U.calling g mk a) (Vm.Alike.refl U.vm) qK, jN_same (U := U.calling g mk a) rfl qN⟩, qI⟩, va_recv hKm (at_P hO) (ci := 11) (q0 := 0) rfl rfl, fun U hU9 hW => ⟨rfl, hU9, jK_warm hW hJ, by rw [hU9]; exact ⟨hI, hO⟩⟩⟩ rfl rfl hl.1 rfl (lv_room (Nat.le_of_ble_eq_true rfl)) dL_law_178 ⟨(by show _ + 0 ≤ 600000; omega), (by show _ + 0 ≤ 7302250; omega)⟩) hS (fun q _ h => h.1) (fun q h => h.1) (fun r9 u t9 H1 locs1 ht hvm hw hQ hz1 hk1 hS1 => ?_)
  refine lv_pop hx hb dL_law_181 rfl ?_
  obtain ⟨-, hI1, hO1, hz9⟩ := hQ
  rw [ht] at hI1 hO1 hz9
  have c_z1 := c_z.kept hz9
  rw [hw] at hO1
  have hX1 : lX (dC, dI) ca s.heap.size m0 n1 o z9 ff pv st H1 := ⟨X, t1, t2, t3, t4, t5, hU, hI1, g_o, g1, g2, g3, g4, g5, hpv, hst, hO1, ht9, hF, g_z, c_z1⟩
  exact law_m0 C kk hX1 (lM_kept hM hk1) hR hS1 hl ⟨by omega, by omega⟩
set_option maxHeartbeats 4000000 in
set_option maxRecDepth 100000 in
theorem law_m1 {p : Program} {l : Launch} {e : Env} {s : State} {m : MethodId} {below : List Frame} {meth : Method} {c : Code} {b L : Nat} {xs : Nat → Int32} {dC : Nat → ClassId} {dI : Nat → Nat → Nat} {ca : Nat → ClassId} {o m0 n1 z9 k : Nat} {ff fm : Nat → Int32} (C : lCx p s m meth c b L xs (dC, dI) ca o m0 n1 k) (kk : lKk p l e s m below meth c b (dC, dI) ca o m0 n1 z9 k) {pv : Option Nat} {st : Int} {H : Heap} {locs : List Loc} {ls : Array Slot} {cells slots : Nat} (hX : lX (dC, dI) ca s.heap.size m0 n1 o z9 ff pv st H) (hM : lM (dC, dI) ca m0 n1 fm H) (hR : lR ff fm) (hS : va_S (fun q : Nat => s.heap.size ≤ q) s.heap H locs) (hl : lv_has ls 4 [(3, .int (kz (6 * (k : Int)))), (2, .ref m0), (1, .ref o), (0, .ref b)]) (hB : bud (k + 1) pv cells slots) : W p l e room_1 s m #[Value.ref b] below meth c H locs cells slots (lw_Z below #[Value.ref b] s) (F0 m 225 ls []) := by
  obtain ⟨⟨hx, hb, hr, hml, hown, hts0, hSc, hbl, hlocks, hgv⟩, hL, hJ, hKm, hAo, hAm, hk⟩ := id C
  have hb : c.code = cL_law := hb
  have hown : s.vm.findClass RL = some m.cls := hown
  have hts : ∀ w ∈ wsL_law, w.before #[Value.ref b] s = true := fun w h => hts0 w (wsL_law_in w h)
  have hbA : ¬ (fun q : Nat => s.heap.size ≤ q) b := Nat.not_le.mpr hbl
  obtain ⟨hB1, hB2⟩ := hB
  obtain ⟨Xm, zi, zl, mS9, mZ9, ⟨mI9, mO9⟩, c_m⟩ := id hM
  refine lv_aload_n hx hb dL_law_225 rfl (lv_at hl 1 rfl) ?_
  refine lv_aload_n hx hb dL_law_226 rfl (lv_at hl 3 rfl) ?_
  refine lv_iload_n hx hb dL_law_227 rfl (lv_at hl 0 rfl) ?_
  refine lv_iconst (v := kz 1) hx hb dL_law_228 rfl ?_
  refine iz_iadd hx hb dL_law_229 ?_
  refine va_sld hx hb hSc hbl hbA hS (kz_in (n := L) (z := 6 * (k : Int) + 1) (by omega) (by omega) (by omega)) dL_law_230 ?_
  refine iz_any (fun z_m1 z_m1a z_m1b _ => ?_)
  refine va_calli (va_runV (As := [.int (kz z_m1)]) (rest := []) ⟨hx, hb, hml, hown, hts⟩ (m_endF l dC dI ca (lAm m0 n1) Xm m0 (mam n1) 18 (Or.inr rfl) zi zl mS9 mZ9 z_m1 ⟨z_m1a, z_m1b⟩) (cwV 1 hts gL_law_X12_end rfl rfl rfl (by decide +kernel) ⟨Nat.le_of_ble_eq_true rfl, Nat.le_of_ble_eq_true rfl⟩) ⟨fun a U g mk q => by obtain ⟨q0, qK, qI⟩ := q; exact ⟨q0, va_K.moved (u := U) (U := U.calling g mk a) (Vm.Alike.refl U.vm) qK, qI⟩, va_recv hKm (at_P mO9) (ci := 12) (q0 := 0) rfl rfl, fun U hU9 hW => ⟨rfl, va_K.moved hW.alike hKm, by rw [hU9]; exact ⟨mI9, mO9⟩⟩⟩ rfl rfl hl.1 rfl (lv_room (Nat.le_of_ble_eq_true rfl)) dL_law_231 ⟨(by show _ + 0 ≤ 600000; omega), (by show _ + 0 ≤ 7302250; omega)⟩) hS (fun q _ h => hAm q h.1) (fun q h => hAm q h.1) (fun r9 u t9 H1 locs1 ht hvm hw hQ hz1 hk1 hS1 => ?_)
  refine lv_pop hx hb dL_law_234 rfl ?_
  refine lv_goto (tgt := 1022) hx hb dL_law_235 (by decide) ?_
  obtain ⟨-, mI1⟩ := hQ
  rw [ht] at mI1
  have hM1 : lM (dC, dI) ca m0 n1 fm H1 := ⟨Xm, u.1, u.2, mS9, hw.1, mI1, c_m.kept (hk1 _ c_m.lt (fun h9 => h9.2 rfl))⟩
  exact kk ff fm pv st H1 locs1 ls cells slots (lX_kept hX hAo (fun q h1 h2 => hk1 q h1 (fun h => h2 h.1))) hM1 hR hS1 hl ⟨hB1, hB2⟩
set_option maxHeartbeats 4000000 in
set_option maxRecDepth 100000 in
theorem law_c1 {p : Program} {l : Launch} {e : Env} {s : State} {m : MethodId} {below : List Frame} {meth : Method} {c : Code} {b L : Nat} {xs : Nat → Int32} {dC : Nat → ClassId} {dI : Nat → Nat → Nat} {ca : Nat → ClassId} {o m0 n1 z9 k : Nat} {ff fm : Nat → Int32} (C : lCx p s m meth c b L xs (dC, dI) ca o m0 n1 k) (kk : lKk p l e s m below meth c b (dC, dI) ca o m0 n1 z9 k) {pv : Option Nat} {st : Int} {H : Heap} {locs : List Loc} {ls : Array Slot} {cells slots : Nat} (hX : lX (dC, dI) ca s.heap.size m0 n1 o z9 ff pv st H) (hM : lM (dC, dI) ca m0 n1 fm H) (hR : lR ff fm) (hS : va_S (fun q : Nat => s.heap.size ≤ q) s.heap H locs) (hl : lv_has ls 4 [(3, .int (kz (6 * (k : Int)))), (2, .ref m0), (1, .ref o), (0, .ref b)]) (hB : bud k pv cells slots) : W p l e room_1 s m #[Value.ref b] below meth c H locs cells slots (lw_Z below #[Value.ref b] s) (F0 m 215 ls []) := by
  obtain ⟨⟨hx, hb, hr, hml, hown, hts0, hSc, hbl, hlocks, hgv⟩, hL, hJ, hKm, hAo, hAm, hk⟩ := id C
  have hb : c.code = cL_law := hb
  have hown : s.vm.findClass RL = some m.cls := hown
  have hts : ∀ w ∈ wsL_law, w.before #[Value.ref b] s = true := fun w h => hts0 w (wsL_law_in w h)
  have hbA : ¬ (fun q : Nat => s.heap.size ≤ q) b := Nat.not_le.mpr hbl
  obtain ⟨hB1, hB2⟩ := hB
  obtain ⟨X, t1, t2, t3, t4, t5, hU, hI, g_o, g1, g2, g3, g4, g5, hpv, hst, hO, ht9, hF, g_z, c_z⟩ := id hX
  refine lv_aload_n hx hb dL_law_215 rfl (lv_at hl 2 rfl) ?_
  refine lv_aload_n hx hb dL_law_216 rfl (lv_at hl 3 rfl) ?_
  refine lv_iload_n hx hb dL_law_217 rfl (lv_at hl 0 rfl) ?_
  refine lv_iconst (v := kz 1) hx hb dL_law_218 rfl ?_
  refine iz_iadd hx hb dL_law_219 ?_
  refine va_sld hx hb hSc hbl hbA hS (kz_in (n := L) (z := 6 * (k : Int) + 1) (by omega) (by omega) (by omega)) dL_law_220 ?_
  refine iz_any (fun z_o1 z_o1a z_o1b _ => ?_)
  refine va_calli (va_runV (As := [.int (kz z_o1)]) (rest := []) ⟨hx, hb, hml, hown, hts⟩ (j_endZ l dC dI ca (lAx s.heap.size m0 n1) X hU H z9 229 20 36 (-1) 5 g_z (Or.inr rfl) (by decide) o t1 t2 t3 t4 t5 pv st z_o1 g_o hAo g1 g2 g3 g4 g5 hpv hst ⟨z_o1a, z_o1b⟩) (cwV 1 hts gL_law_X11_end rfl rfl rfl (by decide +kernel) ⟨Nat.le_of_ble_eq_true rfl, Nat.le_of_ble_eq_true rfl⟩) ⟨fun a U g mk q => by obtain ⟨q0, qH, ⟨qK, qN⟩, qI⟩ := q; exact ⟨q0, qH, ⟨va_K.moved (u := U) (U := U.calling g mk a) (Vm.Alike.refl U.vm) qK, jN_same (U := U.calling g mk a) rfl qN⟩, qI⟩, va_recv hKm (at_P hO) (ci := 11) (q0 := 0) rfl rfl, fun U hU9 hW => ⟨rfl, hU9, jK_warm hW hJ, by rw [hU9]; exact ⟨hI, hO⟩⟩⟩ rfl rfl hl.1 rfl (lv_room (Nat.le_of_ble_eq_true rfl)) dL_law_221 ⟨(by show _ + 0 ≤ 600000; omega), (by show _ + 0 ≤ 7302250; omega)⟩) hS (fun q _ h => h.1) (fun q h => h.1) (fun r9 u t9 H1 locs1 ht hvm hw hQ hz1 hk1 hS1 => ?_)
  refine lv_pop hx hb dL_law_224 rfl ?_
  obtain ⟨-, hI1, hO1, hz9⟩ := hQ
  rw [ht] at hI1 hO1 hz9
  have c_z1 := c_z.kept hz9
  rw [hw] at hO1
  have hX1 : lX (dC, dI) ca s.heap.size m0 n1 o z9 ff pv st H1 := ⟨X, t1, t2, t3, t4, t5, hU, hI1, g_o, g1, g2, g3, g4, g5, hpv, hst, hO1, ht9, hF, g_z, c_z1⟩
  exact law_m1 C kk hX1 (lM_kept hM hk1) hR hS1 hl ⟨by omega, by omega⟩
set_option maxHeartbeats 4000000 in
set_option maxRecDepth 100000 in
theorem law_m2 {p : Program} {l : Launch} {e : Env} {s : State} {m : MethodId} {below : List Frame} {meth : Method} {c : Code} {b L : Nat} {xs : Nat → Int32} {dC : Nat → ClassId} {dI : Nat → Nat → Nat} {ca : Nat → ClassId} {o m0 n1 z9 k : Nat} {ff fm : Nat → Int32} (C : lCx p s m meth c b L xs (dC, dI) ca o m0 n1 k) (kk : lKk p l e s m below meth c b (dC, dI) ca o m0 n1 z9 k) {pv : Option Nat} {st : Int} {H : Heap} {locs : List Loc} {ls : Array Slot} {cells slots : Nat} (hX : lX (dC, dI) ca s.heap.size m0 n1 o z9 ff pv st H) (hM : lM (dC, dI) ca m0 n1 fm H) (hR : lR ff fm) (hS : va_S (fun q : Nat => s.heap.size ≤ q) s.heap H locs) (hl : lv_has ls 4 [(3, .int (kz (6 * (k : Int)))), (2, .ref m0), (1, .ref o), (0, .ref b)]) (hB : bud (k + 1) pv cells slots) : W p l e room_1 s m #[Value.ref b] below meth c H locs cells slots (lw_Z below #[Value.ref b] s) (F0 m 271 ls []) := by
  obtain ⟨⟨hx, hb, hr, hml, hown, hts0, hSc, hbl, hlocks, hgv⟩, hL, hJ, hKm, hAo, hAm, hk⟩ := id C
  have hb : c.code = cL_law := hb
  have hown : s.vm.findClass RL = some m.cls := hown
  have hts : ∀ w ∈ wsL_law, w.before #[Value.ref b] s = true := fun w h => hts0 w (wsL_law_in w h)
  have hbA : ¬ (fun q : Nat => s.heap.size ≤ q) b := Nat.not_le.mpr hbl
  obtain ⟨hB1, hB2⟩ := hB
  obtain ⟨Xm, zi, zl, mS9, mZ9, ⟨mI9, mO9⟩, c_m⟩ := id hM
  refine lv_aload_n hx hb dL_law_271 rfl (lv_at hl 1 rfl) ?_
  refine lv_aload_n hx hb dL_law_272 rfl (lv_at hl 3 rfl) ?_
  refine lv_iload_n hx hb dL_law_273 rfl (lv_at hl 0 rfl) ?_
  refine lv_iconst (v := kz 1) hx hb dL_law_274 rfl ?_
  refine iz_iadd hx hb dL_law_275 ?_
  refine va_sld hx hb hSc hbl hbA hS (kz_in (n := L) (z := 6 * (k : Int) + 1) (by omega) (by omega) (by omega)) dL_law_276 ?_
  refine iz_any (fun z_m1 z_m1a z_m1b _ => ?_)
  refine lv_aload_n hx hb dL_law_277 rfl (lv_at hl 3 rfl) ?_
  refine lv_iload_n hx hb dL_law_278 rfl (lv_at hl 0 rfl) ?_
  refine lv_iconst (v := kz 2) hx hb dL_law_279 rfl ?_
  refine iz_iadd hx hb dL_law_280 ?_
  refine va_sld hx hb hSc hbl hbA hS (kz_in (n := L) (z := 6 * (k : Int) + 2) (by omega) (by omega) (by omega)) dL_law_281 ?_
  refine iz_any (fun z_m2 z_m2a z_m2b _ => ?_)
  refine lv_aload_n hx hb dL_law_282 rfl (lv_at hl 3 rfl) ?_
  refine lv_iload_n hx hb dL_law_283 rfl (lv_at hl 0 rfl) ?_
  refine lv_iconst (v := kz 3) hx hb dL_law_284 rfl ?_
  refine iz_iadd hx hb dL_law_285 ?_
  refine va_sld hx hb hSc hbl hbA hS (kz_in (n := L) (z := 6 * (k : Int) + 3) (by omega) (by omega) (by omega)) dL_law_286 ?_
  refine iz_any (fun z_m3 z_m3a z_m3b _ => ?_)
  refine lv_aload_n hx hb dL_law_287 rfl (lv_at hl 3 rfl) ?_
  refine lv_iload_n hx hb dL_law_288 rfl (lv_at hl 0 rfl) ?_
  refine lv_iconst (v := kz 4) hx hb dL_law_289 rfl ?_
  refine iz_iadd hx hb dL_law_290 ?_
  refine va_sld hx hb hSc hbl hbA hS (kz_in (n := L) (z := 6 * (k : Int) + 4) (by omega) (by omega) (by omega)) dL_law_291 ?_
  refine iz_any (fun z_m4 z_m4a z_m4b _ => ?_)
  have key : ∀ kp2 : Int, ((z_m4 = 0 ∧ kp2 = 0) ∨ (¬ z_m4 = 0 ∧ kp2 = 1)) → W p l e room_1 s m #[Value.ref b] below meth c H locs cells slots (lw_Z below #[Value.ref b] s) (F0 m 300 ls (.int (kz kp2) :: [.int (kz z_m3), .int (kz z_m2), .int (kz z_m1), .ref m0])) := ?_
  · refine iz_eqz (tgt := 299) hx hb dL_law_292 (by decide) (by unfold rg2; omega) (fun b9 => ?_) (fun b9 => ?_)
    · refine lv_iconst (v := kz 0) hx hb dL_law_299 rfl ?_
      exact key 0 (Or.inl ⟨b9, rfl⟩)
    · refine lv_iconst (v := kz 1) hx hb dL_law_295 rfl ?_
      refine lv_goto (tgt := 300) hx hb dL_law_296 (by decide) ?_
      exact key 1 (Or.inr ⟨b9, rfl⟩)
  intro kp2 hkp2v
  have hkp2 : kp2 = 0 ∨ kp2 = 1 := by omega
  refine va_calli (va_runV (As := [.int (kz z_m1), .int (kz z_m2), .int (kz z_m3), .int (kz kp2)]) (rest := []) ⟨hx, hb, hml, hown, hts⟩ (m_formF l dC dI ca (lAm m0 n1) Xm m0 (mam n1) 18 (Or.inr rfl) zi zl mS9 mZ9 z_m1 z_m2 z_m3 kp2 ⟨z_m1a, z_m1b⟩ ⟨z_m2a, z_m2b⟩ ⟨z_m3a, z_m3b⟩ (by omega)) (cwV 4 hts gL_law_X12_form rfl rfl rfl (by decide +kernel) ⟨Nat.le_of_ble_eq_true rfl, Nat.le_of_ble_eq_true rfl⟩) ⟨fun a U g mk q => by obtain ⟨q0, qK, qI⟩ := q; exact ⟨q0, va_K.moved (u := U) (U := U.calling g mk a) (Vm.Alike.refl U.vm) qK, qI⟩, va_recv hKm (at_P mO9) (ci := 12) (q0 := 0) rfl rfl, fun U hU9 hW => ⟨rfl, va_K.moved hW.alike hKm, by rw [hU9]; exact ⟨mI9, mO9⟩⟩⟩ rfl rfl hl.1 rfl (lv_room (Nat.le_of_ble_eq_true rfl)) dL_law_300 ⟨(by show _ + 0 ≤ 600000; omega), (by show _ + 0 ≤ 7302250; omega)⟩) hS (fun q _ h => hAm q h.1) (fun q h => hAm q h.1) (fun r9 u t9 H1 locs1 ht hvm hw hQ hz1 hk1 hS1 => ?_)
  refine lv_pop hx hb dL_law_303 rfl ?_
  refine lv_goto (tgt := 1022) hx hb dL_law_304 (by decide) ?_
  obtain ⟨-, mI1⟩ := hQ
  rw [ht] at mI1
  have hM1 : lM (dC, dI) ca m0 n1 fm H1 := ⟨u.1, u.2.1, u.2.2, hw.1, hw.2.1, mI1, c_m.kept (hk1 _ c_m.lt (fun h9 => h9.2 rfl))⟩
  exact kk ff fm pv st H1 locs1 ls cells slots (lX_kept hX hAo (fun q h1 h2 => hk1 q h1 (fun h => h2 h.1))) hM1 hR hS1 hl ⟨hB1, hB2⟩
set_option maxHeartbeats 4000000 in
set_option maxRecDepth 100000 in
theorem law_c2 {p : Program} {l : Launch} {e : Env} {s : State} {m : MethodId} {below : List Frame} {meth : Method} {c : Code} {b L : Nat} {xs : Nat → Int32} {dC : Nat → ClassId} {dI : Nat → Nat → Nat} {ca : Nat → ClassId} {o m0 n1 z9 k : Nat} {ff fm : Nat → Int32} (C : lCx p s m meth c b L xs (dC, dI) ca o m0 n1 k) (kk : lKk p l e s m below meth c b (dC, dI) ca o m0 n1 z9 k) {pv : Option Nat} {st : Int} {H : Heap} {locs : List Loc} {ls : Array Slot} {cells slots : Nat} (hX : lX (dC, dI) ca s.heap.size m0 n1 o z9 ff pv st H) (hM : lM (dC, dI) ca m0 n1 fm H) (hR : lR ff fm) (hS : va_S (fun q : Nat => s.heap.size ≤ q) s.heap H locs) (hl : lv_has ls 4 [(3, .int (kz (6 * (k : Int)))), (2, .ref m0), (1, .ref o), (0, .ref b)]) (hB : bud k pv cells slots) : W p l e room_1 s m #[Value.ref b] below meth c H locs cells slots (lw_Z below #[Value.ref b] s) (F0 m 238 ls []) := by
  obtain ⟨⟨hx, hb, hr, hml, hown, hts0, hSc, hbl, hlocks, hgv⟩, hL, hJ, hKm, hAo, hAm, hk⟩ := id C
  have hb : c.code = cL_law := hb
  have hown : s.vm.findClass RL = some m.cls := hown
  have hts : ∀ w ∈ wsL_law, w.before #[Value.ref b] s = true := fun w h => hts0 w (wsL_law_in w h)
  have hbA : ¬ (fun q : Nat => s.heap.size ≤ q) b := Nat.not_le.mpr hbl
  obtain ⟨hB1, hB2⟩ := hB
  obtain ⟨X, t1, t2, t3, t4, t5, hU, hI, g_o, g1, g2, g3, g4, g5, hpv, hst, hO, ht9, hF, g_z, c_z⟩ := id hX
  refine lv_aload_n hx hb dL_law_238 rfl (lv_at hl 2 rfl) ?_
  refine lv_aload_n hx hb dL_law_239 rfl (lv_at hl 3 rfl) ?_
  refine lv_iload_n hx hb dL_law_240 rfl (lv_at hl 0 rfl) ?_
  refine lv_iconst (v := kz 1) hx hb dL_law_241 rfl ?_
  refine iz_iadd hx hb dL_law_242 ?_
  refine va_sld hx hb hSc hbl hbA hS (kz_in (n := L) (z := 6 * (k : Int) + 1) (by omega) (by omega) (by omega)) dL_law_243 ?_
  refine iz_any (fun z_o1 z_o1a z_o1b _ => ?_)
  refine lv_aload_n hx hb dL_law_244 rfl (lv_at hl 3 rfl) ?_
  refine lv_iload_n hx hb dL_law_245 rfl (lv_at hl 0 rfl) ?_
  refine lv_iconst (v := kz 2) hx hb dL_law_246 rfl ?_
  refine iz_iadd hx hb dL_law_247 ?_
  refine va_sld hx hb hSc hbl hbA hS (kz_in (n := L) (z := 6 * (k : Int) + 2) (by omega) (by omega) (by omega)) dL_law_248 ?_
  refine iz_any (fun z_o2 z_o2a z_o2b _ => ?_)
  refine lv_aload_n hx hb dL_law_249 rfl (lv_at hl 3 rfl) ?_
  refine lv_iload_n hx hb dL_law_250 rfl (lv_at hl 0 rfl) ?_
  refine lv_iconst (v := kz 3) hx hb dL_law_251 rfl ?_
  refine iz_iadd hx hb dL_law_252 ?_
  refine va_sld hx hb hSc hbl hbA hS (kz_in (n := L) (z := 6 * (k : Int) + 3) (by omega) (by omega) (by omega)) dL_law_253 ?_
  refine iz_any (fun z_o3 z_o3a z_o3b _ => ?_)
  refine lv_aload_n hx hb dL_law_254 rfl (lv_at hl 3 rfl) ?_
  refine lv_iload_n hx hb dL_law_255 rfl (lv_at hl 0 rfl) ?_
  refine lv_iconst (v := kz 4) hx hb dL_law_256 rfl ?_
  refine iz_iadd hx hb dL_law_257 ?_
  refine va_sld hx hb hSc hbl hbA hS (kz_in (n := L) (z := 6 * (k : Int) + 4) (by omega) (by omega) (by omega)) dL_law_258 ?_
  refine iz_any (fun z_o4 z_o4a z_o4b _ => ?_)
  have key : ∀ kp : Int, ((z_o4 = 0 ∧ kp = 0) ∨ (¬ z_o4 = 0 ∧ kp = 1)) → W p l e room_1 s m #[Value.ref b] below meth c H locs cells slots (lw_Z below #[Value.ref b] s) (F0 m 267 ls (.int (kz kp) :: [.int (kz z_o3), .int (kz z_o2), .int (kz z_o1), .ref o])) := ?_
  · refine iz_eqz (tgt := 266) hx hb dL_law_259 (by decide) (by unfold rg2; omega) (fun b9 => ?_) (fun b9 => ?_)
    · refine lv_iconst (v := kz 0) hx hb dL_law_266 rfl ?_
      exact key 0 (Or.inl ⟨b9, rfl⟩)
    · refine lv_iconst (v := kz 1) hx hb dL_law_262 rfl ?_
      refine lv_goto (tgt := 267) hx hb dL_law_263 (by decide) ?_
      exact key 1 (Or.inr ⟨b9, rfl⟩)
  intro kp hkpv
  have hkp : kp = 0 ∨ kp = 1 := by omega
  refine va_calli (va_runV (As := [.int (kz z_o1), .int (kz z_o2), .int (kz z_o3), .int (kz kp)]) (rest := []) ⟨hx, hb, hml, hown, hts⟩ (j_formZ l dC dI ca (lAx s.heap.size m0 n1) X hU H z9 229 20 36 (-1) 5 g_z (Or.inr rfl) (by decide) o t1 t2 t3 t4 t5 pv st z_o1 z_o2 z_o3 kp g_o hAo g1 g2 g3 g4 g5 hpv hst ⟨z_o1a, z_o1b⟩ ⟨z_o2a, z_o2b⟩ ⟨z_o3a, z_o3b⟩ hkp (lA9 hM hS.1)) (cwV 4 hts gL_law_X11_form rfl rfl rfl (by decide +kernel) ⟨Nat.le_of_ble_eq_true rfl, Nat.le_of_ble_eq_true rfl⟩) ⟨fun a U g mk q => by obtain ⟨q0, qH, ⟨qK, qN⟩, qI⟩ := q; exact ⟨q0, qH, ⟨va_K.moved (u := U) (U := U.calling g mk a) (Vm.Alike.refl U.vm) qK, jN_same (U := U.calling g mk a) rfl qN⟩, qI⟩, va_recv hKm (at_P hO) (ci := 11) (q0 := 0) rfl rfl, fun U hU9 hW => ⟨rfl, hU9, jK_warm hW hJ, by rw [hU9]; exact ⟨hI, hO⟩⟩⟩ rfl rfl hl.1 rfl (lv_room (Nat.le_of_ble_eq_true rfl)) dL_law_267 ⟨(by show _ + 2 ≤ 600000; omega), (by show _ + 24 ≤ 7302250; omega)⟩) hS (fun q _ h => h.1) (fun q h => h.1) (fun r9 u t9 H1 locs1 ht hvm hw hQ hz1 hk1 hS1 => ?_)
  refine lv_pop hx hb dL_law_270 rfl ?_
  obtain ⟨-, hI1, hO1, hz9⟩ := hQ
  rw [ht] at hI1 hO1 hz9
  have c_z1 := c_z.kept hz9
  obtain ⟨hP, hw⟩ := hw
  rw [hw] at hO1
  have hX1 : lX (dC, dI) ca s.heap.size m0 n1 o z9 ff pv st H1 := lX_mk hP (by decide) hI1 g_o g1 g2 g3 g4 g5 (fun b9 e9 => prl_t hP (hpv b9 e9) (show (30 : Nat) ≠ 0 by decide)) hst hO1 ht9 (fun e9 => lF_prl (hF e9) hP) g_z c_z1
  exact law_m2 C kk hX1 (lM_kept hM hk1) hR hS1 hl ⟨by omega, by omega⟩
set_option maxHeartbeats 4000000 in
set_option maxRecDepth 100000 in
theorem law_m3 {p : Program} {l : Launch} {e : Env} {s : State} {m : MethodId} {below : List Frame} {meth : Method} {c : Code} {b L : Nat} {xs : Nat → Int32} {dC : Nat → ClassId} {dI : Nat → Nat → Nat} {ca : Nat → ClassId} {o m0 n1 z9 k : Nat} {ff fm : Nat → Int32} (C : lCx p s m meth c b L xs (dC, dI) ca o m0 n1 k) (kk : lKk p l e s m below meth c b (dC, dI) ca o m0 n1 z9 k) {pv : Option Nat} {st : Int} {H : Heap} {locs : List Loc} {ls : Array Slot} {cells slots : Nat} (hX : lX (dC, dI) ca s.heap.size m0 n1 o z9 ff pv st H) (hM : lM (dC, dI) ca m0 n1 fm H) (hR : lR ff fm) (hS : va_S (fun q : Nat => s.heap.size ≤ q) s.heap H locs) (hl : lv_has ls 4 [(3, .int (kz (6 * (k : Int)))), (2, .ref m0), (1, .ref o), (0, .ref b)]) (hB : bud (k + 1) pv cells slots) : W p l e room_1 s m #[Value.ref b] below meth c H locs cells slots (lw_Z below #[Value.ref b] s) (F0 m 337 ls []) := by
  obtain ⟨⟨hx, hb, hr, hml, hown, hts0, hSc, hbl, hlocks, hgv⟩, hL, hJ, hKm, hAo, hAm, hk⟩ := id C
  have hb : c.code = cL_law := hb
  have hown : s.vm.findClass RL = some m.cls := hown
  have hts : ∀ w ∈ wsL_law, w.before #[Value.ref b] s = true := fun w h => hts0 w (wsL_law_in w h)
  have hbA : ¬ (fun q : Nat => s.heap.size ≤ q) b := Nat.not_le.mpr hbl
  obtain ⟨hB1, hB2⟩ := hB
  obtain ⟨Xm, zi, zl, mS9, mZ9, ⟨mI9, mO9⟩, c_m⟩ := id hM
  refine lv_aload_n hx hb dL_law_337 rfl (lv_at hl 1 rfl) ?_
  refine lv_aload_n hx hb dL_law_338 rfl (lv_at hl 3 rfl) ?_
  refine lv_iload_n hx hb dL_law_339 rfl (lv_at hl 0 rfl) ?_
  refine lv_iconst (v := kz 1) hx hb dL_law_340 rfl ?_
  refine iz_iadd hx hb dL_law_341 ?_
  refine va_sld hx hb hSc hbl hbA hS (kz_in (n := L) (z := 6 * (k : Int) + 1) (by omega) (by omega) (by omega)) dL_law_342 ?_
  refine iz_any (fun z_m1 z_m1a z_m1b _ => ?_)
  refine lv_aload_n hx hb dL_law_343 rfl (lv_at hl 3 rfl) ?_
  refine lv_iload_n hx hb dL_law_344 rfl (lv_at hl 0 rfl) ?_
  refine lv_iconst (v := kz 2) hx hb dL_law_345 rfl ?_
  refine iz_iadd hx hb dL_law_346 ?_
  refine va_sld hx hb hSc hbl hbA hS (kz_in (n := L) (z := 6 * (k : Int) + 2) (by omega) (by omega) (by omega)) dL_law_347 ?_
  refine iz_any (fun z_m2 z_m2a z_m2b _ => ?_)
  refine lv_aload_n hx hb dL_law_348 rfl (lv_at hl 3 rfl) ?_
  refine lv_iload_n hx hb dL_law_349 rfl (lv_at hl 0 rfl) ?_
  refine lv_iconst (v := kz 3) hx hb dL_law_350 rfl ?_
  refine iz_iadd hx hb dL_law_351 ?_
  refine va_sld hx hb hSc hbl hbA hS (kz_in (n := L) (z := 6 * (k : Int) + 3) (by omega) (by omega) (by omega)) dL_law_352 ?_
  refine iz_any (fun z_m3 z_m3a z_m3b _ => ?_)
  refine lv_aload_n hx hb dL_law_353 rfl (lv_at hl 3 rfl) ?_
  refine lv_iload_n hx hb dL_law_354 rfl (lv_at hl 0 rfl) ?_
  refine lv_iconst (v := kz 4) hx hb dL_law_355 rfl ?_
  refine iz_iadd hx hb dL_law_356 ?_
  refine va_sld hx hb hSc hbl hbA hS (kz_in (n := L) (z := 6 * (k : Int) + 4) (by omega) (by omega) (by omega)) dL_law_357 ?_
  refine iz_any (fun z_m4 z_m4a z_m4b _ => ?_)
  refine lv_aload_n hx hb dL_law_358 rfl (lv_at hl 3 rfl) ?_
  refine lv_iload_n hx hb dL_law_359 rfl (lv_at hl 0 rfl) ?_
  refine lv_iconst (v := kz 5) hx hb dL_law_360 rfl ?_
  refine iz_iadd hx hb dL_law_361 ?_
  refine va_sld hx hb hSc hbl hbA hS (kz_in (n := L) (z := 6 * (k : Int) + 5) (by omega) (by omega) (by omega)) dL_law_362 ?_
  refine iz_any (fun z_m5 z_m5a z_m5b _ => ?_)
  refine va_calli (va_runV (As := [.int (kz z_m1), .int (kz z_m2), .int (kz z_m3), .int (kz z_m4), .int (kz z_m5)]) (rest := []) ⟨hx, hb, hml, hown, hts⟩ (m_ruleF l dC dI ca (lAm m0 n1) Xm m0 (mam n1) 18 (Or.inr rfl) zi zl mS9 mZ9 z_m1 z_m2 z_m3 z_m4 z_m5 ⟨z_m1a, z_m1b⟩ ⟨z_m2a, z_m2b⟩ ⟨z_m3a, z_m3b⟩ ⟨z_m4a, z_m4b⟩ ⟨z_m5a, z_m5b⟩) (cwV 5 hts gL_law_X12_rule rfl rfl rfl (by decide +kernel) ⟨Nat.le_of_ble_eq_true rfl, Nat.le_of_ble_eq_true rfl⟩) ⟨fun a U g mk q => by obtain ⟨q0, qK, qI⟩ := q; exact ⟨q0, va_K.moved (u := U) (U := U.calling g mk a) (Vm.Alike.refl U.vm) qK, qI⟩, va_recv hKm (at_P mO9) (ci := 12) (q0 := 0) rfl rfl, fun U hU9 hW => ⟨rfl, va_K.moved hW.alike hKm, by rw [hU9]; exact ⟨mI9, mO9⟩⟩⟩ rfl rfl hl.1 rfl (lv_room (Nat.le_of_ble_eq_true rfl)) dL_law_363 ⟨(by show _ + 0 ≤ 600000; omega), (by show _ + 0 ≤ 7302250; omega)⟩) hS (fun q _ h => hAm q h.1) (fun q h => hAm q h.1) (fun r9 u t9 H1 locs1 ht hvm hw hQ hz1 hk1 hS1 => ?_)
  refine lv_pop hx hb dL_law_366 rfl ?_
  refine lv_goto (tgt := 1022) hx hb dL_law_367 (by decide) ?_
  obtain ⟨-, mI1⟩ := hQ
  rw [ht] at mI1
  have hM1 : lM (dC, dI) ca m0 n1 fm H1 := ⟨Xm, u.1, u.2, mS9, hw.1, mI1, c_m.kept (hk1 _ c_m.lt (fun h9 => h9.2 rfl))⟩
  exact kk ff fm pv st H1 locs1 ls cells slots (lX_kept hX hAo (fun q h1 h2 => hk1 q h1 (fun h => h2 h.1))) hM1 hR hS1 hl ⟨hB1, hB2⟩
set_option maxHeartbeats 4000000 in
set_option maxRecDepth 100000 in
theorem law_c3 {p : Program} {l : Launch} {e : Env} {s : State} {m : MethodId} {below : List Frame} {meth : Method} {c : Code} {b L : Nat} {xs : Nat → Int32} {dC : Nat → ClassId} {dI : Nat → Nat → Nat} {ca : Nat → ClassId} {o m0 n1 z9 k : Nat} {ff fm : Nat → Int32} (C : lCx p s m meth c b L xs (dC, dI) ca o m0 n1 k) (kk : lKk p l e s m below meth c b (dC, dI) ca o m0 n1 z9 k) {pv : Option Nat} {st : Int} {H : Heap} {locs : List Loc} {ls : Array Slot} {cells slots : Nat} (hX : lX (dC, dI) ca s.heap.size m0 n1 o z9 ff pv st H) (hM : lM (dC, dI) ca m0 n1 fm H) (hR : lR ff fm) (hS : va_S (fun q : Nat => s.heap.size ≤ q) s.heap H locs) (hl : lv_has ls 4 [(3, .int (kz (6 * (k : Int)))), (2, .ref m0), (1, .ref o), (0, .ref b)]) (hB : bud k pv cells slots) : W p l e room_1 s m #[Value.ref b] below meth c H locs cells slots (lw_Z below #[Value.ref b] s) (F0 m 307 ls []) := by
  obtain ⟨⟨hx, hb, hr, hml, hown, hts0, hSc, hbl, hlocks, hgv⟩, hL, hJ, hKm, hAo, hAm, hk⟩ := id C
  have hb : c.code = cL_law := hb
  have hown : s.vm.findClass RL = some m.cls := hown
  have hts : ∀ w ∈ wsL_law, w.before #[Value.ref b] s = true := fun w h => hts0 w (wsL_law_in w h)
  have hbA : ¬ (fun q : Nat => s.heap.size ≤ q) b := Nat.not_le.mpr hbl
  obtain ⟨hB1, hB2⟩ := hB
  obtain ⟨X, t1, t2, t3, t4, t5, hU, hI, g_o, g1, g2, g3, g4, g5, hpv, hst, hO, ht9, hF, g_z, c_z⟩ := id hX
  refine lv_aload_n hx hb dL_law_307 rfl (lv_at hl 2 rfl) ?_
  refine lv_aload_n hx hb dL_law_308 rfl (lv_at hl 3 rfl) ?_
  refine lv_iload_n hx hb dL_law_309 rfl (lv_at hl 0 rfl) ?_
  refine lv_iconst (v := kz 1) hx hb dL_law_310 rfl ?_
  refine iz_iadd hx hb dL_law_311 ?_
  refine va_sld hx hb hSc hbl hbA hS (kz_in (n := L) (z := 6 * (k : Int) + 1) (by omega) (by omega) (by omega)) dL_law_312 ?_
  refine iz_any (fun z_o1 z_o1a z_o1b _ => ?_)
  refine lv_aload_n hx hb dL_law_313 rfl (lv_at hl 3 rfl) ?_
  refine lv_iload_n hx hb dL_law_314 rfl (lv_at hl 0 rfl) ?_
  refine lv_iconst (v := kz 2) hx hb dL_law_315 rfl ?_
  refine iz_iadd hx hb dL_law_316 ?_
  refine va_sld hx hb hSc hbl hbA hS (kz_in (n := L) (z := 6 * (k : Int) + 2) (by omega) (by omega) (by omega)) dL_law_317 ?_
  refine iz_any (fun z_o2 z_o2a z_o2b _ => ?_)
  refine lv_aload_n hx hb dL_law_318 rfl (lv_at hl 3 rfl) ?_
  refine lv_iload_n hx hb dL_law_319 rfl (lv_at hl 0 rfl) ?_
  refine lv_iconst (v := kz 3) hx hb dL_law_320 rfl ?_
  refine iz_iadd hx hb dL_law_321 ?_
  refine va_sld hx hb hSc hbl hbA hS (kz_in (n := L) (z := 6 * (k : Int) + 3) (by omega) (by omega) (by omega)) dL_law_322 ?_
  refine iz_any (fun z_o3 z_o3a z_o3b _ => ?_)
  refine lv_aload_n hx hb dL_law_323 rfl (lv_at hl 3 rfl) ?_
  refine lv_iload_n hx hb dL_law_324 rfl (lv_at hl 0 rfl) ?_
  refine lv_iconst (v := kz 4) hx hb dL_law_325 rfl ?_
  refine iz_iadd hx hb dL_law_326 ?_
  refine va_sld hx hb hSc hbl hbA hS (kz_in (n := L) (z := 6 * (k : Int) + 4) (by omega) (by omega) (by omega)) dL_law_327 ?_
  refine iz_any (fun z_o4 z_o4a z_o4b _ => ?_)
  refine lv_aload_n hx hb dL_law_328 rfl (lv_at hl 3 rfl) ?_
  refine lv_iload_n hx hb dL_law_329 rfl (lv_at hl 0 rfl) ?_
  refine lv_iconst (v := kz 5) hx hb dL_law_330 rfl ?_
  refine iz_iadd hx hb dL_law_331 ?_
  refine va_sld hx hb hSc hbl hbA hS (kz_in (n := L) (z := 6 * (k : Int) + 5) (by omega) (by omega) (by omega)) dL_law_332 ?_
  refine iz_any (fun z_o5 z_o5a z_o5b _ => ?_)
  refine va_calli (va_runV (As := [.int (kz z_o1), .int (kz z_o2), .int (kz z_o3), .int (kz z_o4), .int (kz z_o5)]) (rest := []) ⟨hx, hb, hml, hown, hts⟩ (j_ruleZ l dC dI ca (lAx s.heap.size m0 n1) X hU H z9 229 20 36 (-1) 5 g_z (Or.inr rfl) (by decide) o t1 t2 t3 t4 t5 pv st z_o1 z_o2 z_o3 z_o4 z_o5 g_o hAo g1 g2 g3 g4 g5 hpv hst ⟨z_o1a, z_o1b⟩ ⟨z_o2a, z_o2b⟩ ⟨z_o3a, z_o3b⟩ ⟨z_o4a, z_o4b⟩ ⟨z_o5a, z_o5b⟩ (lA9 hM hS.1) ht9) (cwV 5 hts gL_law_X11_rule rfl rfl rfl (by decide +kernel) ⟨Nat.le_of_ble_eq_true rfl, Nat.le_of_ble_eq_true rfl⟩) ⟨fun a U g mk q => by obtain ⟨q0, qH, ⟨qK, qN⟩, qI⟩ := q; exact ⟨q0, qH, ⟨va_K.moved (u := U) (U := U.calling g mk a) (Vm.Alike.refl U.vm) qK, jN_same (U := U.calling g mk a) rfl qN⟩, qI⟩, va_recv hKm (at_P hO) (ci := 11) (q0 := 0) rfl rfl, fun U hU9 hW => ⟨rfl, hU9, jK_warm hW hJ, by rw [hU9]; exact ⟨hI, hO⟩⟩⟩ rfl rfl hl.1 rfl (lv_room (Nat.le_of_ble_eq_true rfl)) dL_law_333 ⟨(by show _ + 2 ≤ 600000; omega), (by show _ + 25 ≤ 7302250; omega)⟩) hS (fun q _ h => h.1) (fun q h => h.1) (fun r9 u t9 H1 locs1 ht hvm hw hQ hz1 hk1 hS1 => ?_)
  refine lv_pop hx hb dL_law_336 rfl ?_
  obtain ⟨-, hI1, hO1, hz9⟩ := hQ
  rw [ht] at hI1 hO1 hz9
  have c_z1 := c_z.kept hz9
  obtain ⟨hP, hw⟩ := hw
  rw [hw] at hO1
  have hX1 : lX (dC, dI) ca s.heap.size m0 n1 o z9 ff pv st H1 := lX_mk hP (by decide) hI1 g_o g1 g2 g3 g4 g5 (fun b9 e9 => prl_t hP (hpv b9 e9) (show (30 : Nat) ≠ 0 by decide)) hst hO1 ht9 (fun e9 => lF_prl (hF e9) hP) g_z c_z1
  exact law_m3 C kk hX1 (lM_kept hM hk1) hR hS1 hl ⟨by omega, by omega⟩
set_option maxHeartbeats 4000000 in
set_option maxRecDepth 100000 in
theorem law_m4 {p : Program} {l : Launch} {e : Env} {s : State} {m : MethodId} {below : List Frame} {meth : Method} {c : Code} {b L : Nat} {xs : Nat → Int32} {dC : Nat → ClassId} {dI : Nat → Nat → Nat} {ca : Nat → ClassId} {o m0 n1 z9 k : Nat} {ff fm : Nat → Int32} (C : lCx p s m meth c b L xs (dC, dI) ca o m0 n1 k) (kk : lKk p l e s m below meth c b (dC, dI) ca o m0 n1 z9 k) {pv : Option Nat} {st : Int} {H : Heap} {locs : List Loc} {ls : Array Slot} {cells slots : Nat} (hX : lX (dC, dI) ca s.heap.size m0 n1 o z9 ff pv st H) (hM : lM (dC, dI) ca m0 n1 fm H) (hR : lR ff fm) (hS : va_S (fun q : Nat => s.heap.size ≤ q) s.heap H locs) (hl : lv_has ls 4 [(3, .int (kz (6 * (k : Int)))), (2, .ref m0), (1, .ref o), (0, .ref b)]) (hB : bud (k + 1) pv cells slots) : W p l e room_1 s m #[Value.ref b] below meth c H locs cells slots (lw_Z below #[Value.ref b] s) (F0 m 385 ls []) := by
  obtain ⟨⟨hx, hb, hr, hml, hown, hts0, hSc, hbl, hlocks, hgv⟩, hL, hJ, hKm, hAo, hAm, hk⟩ := id C
  have hb : c.code = cL_law := hb
  have hown : s.vm.findClass RL = some m.cls := hown
  have hts : ∀ w ∈ wsL_law, w.before #[Value.ref b] s = true := fun w h => hts0 w (wsL_law_in w h)
  have hbA : ¬ (fun q : Nat => s.heap.size ≤ q) b := Nat.not_le.mpr hbl
  obtain ⟨hB1, hB2⟩ := hB
  obtain ⟨Xm, zi, zl, mS9, mZ9, ⟨mI9, mO9⟩, c_m⟩ := id hM
  refine lv_aload_n hx hb dL_law_385 rfl (lv_at hl 1 rfl) ?_
  refine lv_aload_n hx hb dL_law_386 rfl (lv_at hl 3 rfl) ?_
  refine lv_iload_n hx hb dL_law_387 rfl (lv_at hl 0 rfl) ?_
  refine lv_iconst (v := kz 1) hx hb dL_law_388 rfl ?_
  refine iz_iadd hx hb dL_law_389 ?_
  refine va_sld hx hb hSc hbl hbA hS (kz_in (n := L) (z := 6 * (k : Int) + 1) (by omega) (by omega) (by omega)) dL_law_390 ?_
  refine iz_any (fun z_m1 z_m1a z_m1b _ => ?_)
  refine lv_aload_n hx hb dL_law_391 rfl (lv_at hl 3 rfl) ?_
  refine lv_iload_n hx hb dL_law_392 rfl (lv_at hl 0 rfl) ?_
  refine lv_iconst (v := kz 2) hx hb dL_law_393 rfl ?_
  refine iz_iadd hx hb dL_law_394 ?_
  refine va_sld hx hb hSc hbl hbA hS (kz_in (n := L) (z := 6 * (k : Int) + 2) (by omega) (by omega) (by omega)) dL_law_395 ?_
  refine iz_any (fun z_m2 z_m2a z_m2b _ => ?_)
  refine va_calli (va_runV (As := [.int (kz z_m1), .int (kz z_m2)]) (rest := []) ⟨hx, hb, hml, hown, hts⟩ (m_costF l dC dI ca (lAm m0 n1) Xm m0 (mam n1) 18 (Or.inr rfl) zi zl mS9 mZ9 z_m1 z_m2 ⟨z_m1a, z_m1b⟩ ⟨z_m2a, z_m2b⟩) (cwV 2 hts gL_law_X12_cost rfl rfl rfl (by decide +kernel) ⟨Nat.le_of_ble_eq_true rfl, Nat.le_of_ble_eq_true rfl⟩) ⟨fun a U g mk q => by obtain ⟨q0, qK, qI⟩ := q; exact ⟨q0, va_K.moved (u := U) (U := U.calling g mk a) (Vm.Alike.refl U.vm) qK, qI⟩, va_recv hKm (at_P mO9) (ci := 12) (q0 := 0) rfl rfl, fun U hU9 hW => ⟨rfl, va_K.moved hW.alike hKm, by rw [hU9]; exact ⟨mI9, mO9⟩⟩⟩ rfl rfl hl.1 rfl (lv_room (Nat.le_of_ble_eq_true rfl)) dL_law_396 ⟨(by show _ + 0 ≤ 600000; omega), (by show _ + 0 ≤ 7302250; omega)⟩) hS (fun q _ h => hAm q h.1) (fun q h => hAm q h.1) (fun r9 u t9 H1 locs1 ht hvm hw hQ hz1 hk1 hS1 => ?_)
  refine lv_pop hx hb dL_law_399 rfl ?_
  refine lv_goto (tgt := 1022) hx hb dL_law_400 (by decide) ?_
  obtain ⟨-, mI1⟩ := hQ
  rw [ht] at mI1
  have hM1 : lM (dC, dI) ca m0 n1 fm H1 := ⟨Xm, u.1, u.2, mS9, hw.1, mI1, c_m.kept (hk1 _ c_m.lt (fun h9 => h9.2 rfl))⟩
  exact kk ff fm pv st H1 locs1 ls cells slots (lX_kept hX hAo (fun q h1 h2 => hk1 q h1 (fun h => h2 h.1))) hM1 hR hS1 hl ⟨hB1, hB2⟩
set_option maxHeartbeats 4000000 in
set_option maxRecDepth 100000 in
theorem law_c4 {p : Program} {l : Launch} {e : Env} {s : State} {m : MethodId} {below : List Frame} {meth : Method} {c : Code} {b L : Nat} {xs : Nat → Int32} {dC : Nat → ClassId} {dI : Nat → Nat → Nat} {ca : Nat → ClassId} {o m0 n1 z9 k : Nat} {ff fm : Nat → Int32} (C : lCx p s m meth c b L xs (dC, dI) ca o m0 n1 k) (kk : lKk p l e s m below meth c b (dC, dI) ca o m0 n1 z9 k) {pv : Option Nat} {st : Int} {H : Heap} {locs : List Loc} {ls : Array Slot} {cells slots : Nat} (hX : lX (dC, dI) ca s.heap.size m0 n1 o z9 ff pv st H) (hM : lM (dC, dI) ca m0 n1 fm H) (hR : lR ff fm) (hS : va_S (fun q : Nat => s.heap.size ≤ q) s.heap H locs) (hl : lv_has ls 4 [(3, .int (kz (6 * (k : Int)))), (2, .ref m0), (1, .ref o), (0, .ref b)]) (hB : bud k pv cells slots) : W p l e room_1 s m #[Value.ref b] below meth c H locs cells slots (lw_Z below #[Value.ref b] s) (F0 m 370 ls []) := by
  obtain ⟨⟨hx, hb, hr, hml, hown, hts0, hSc, hbl, hlocks, hgv⟩, hL, hJ, hKm, hAo, hAm, hk⟩ := id C
  have hb : c.code = cL_law := hb
  have hown : s.vm.findClass RL = some m.cls := hown
  have hts : ∀ w ∈ wsL_law, w.before #[Value.ref b] s = true := fun w h => hts0 w (wsL_law_in w h)
  have hbA : ¬ (fun q : Nat => s.heap.size ≤ q) b := Nat.not_le.mpr hbl
  obtain ⟨hB1, hB2⟩ := hB
  obtain ⟨X, t1, t2, t3, t4, t5, hU, hI, g_o, g1, g2, g3, g4, g5, hpv, hst, hO, ht9, hF, g_z, c_z⟩ := id hX
  refine lv_aload_n hx hb dL_law_370 rfl (lv_at hl 2 rfl) ?_
  refine lv_aload_n hx hb dL_law_371 rfl (lv_at hl 3 rfl) ?_
  refine lv_iload_n hx hb dL_law_372 rfl (lv_at hl 0 rfl) ?_
  refine lv_iconst (v := kz 1) hx hb dL_law_373 rfl ?_
  refine iz_iadd hx hb dL_law_374 ?_
  refine va_sld hx hb hSc hbl hbA hS (kz_in (n := L) (z := 6 * (k : Int) + 1) (by omega) (by omega) (by omega)) dL_law_375 ?_
  refine iz_any (fun z_o1 z_o1a z_o1b _ => ?_)
  refine lv_aload_n hx hb dL_law_376 rfl (lv_at hl 3 rfl) ?_
  refine lv_iload_n hx hb dL_law_377 rfl (lv_at hl 0 rfl) ?_
  refine lv_iconst (v := kz 2) hx hb dL_law_378 rfl ?_
  refine iz_iadd hx hb dL_law_379 ?_
  refine va_sld hx hb hSc hbl hbA hS (kz_in (n := L) (z := 6 * (k : Int) + 2) (by omega) (by omega) (by omega)) dL_law_380 ?_
  refine iz_any (fun z_o2 z_o2a z_o2b _ => ?_)
  refine va_calli (va_runV (As := [.int (kz z_o1), .int (kz z_o2)]) (rest := []) ⟨hx, hb, hml, hown, hts⟩ (j_costZ l dC dI ca (lAx s.heap.size m0 n1) X hU H z9 229 20 36 (-1) 5 g_z (Or.inr rfl) (by decide) o t1 t2 t3 t4 t5 pv st z_o1 z_o2 g_o hAo g1 g2 g3 g4 g5 hpv hst ⟨z_o1a, z_o1b⟩ ⟨z_o2a, z_o2b⟩) (cwV 2 hts gL_law_X11_cost rfl rfl rfl (by decide +kernel) ⟨Nat.le_of_ble_eq_true rfl, Nat.le_of_ble_eq_true rfl⟩) ⟨fun a U g mk q => by obtain ⟨q0, qH, ⟨qK, qN⟩, qI⟩ := q; exact ⟨q0, qH, ⟨va_K.moved (u := U) (U := U.calling g mk a) (Vm.Alike.refl U.vm) qK, jN_same (U := U.calling g mk a) rfl qN⟩, qI⟩, va_recv hKm (at_P hO) (ci := 11) (q0 := 0) rfl rfl, fun U hU9 hW => ⟨rfl, hU9, jK_warm hW hJ, by rw [hU9]; exact ⟨hI, hO⟩⟩⟩ rfl rfl hl.1 rfl (lv_room (Nat.le_of_ble_eq_true rfl)) dL_law_381 ⟨(by show _ + 0 ≤ 600000; omega), (by show _ + 0 ≤ 7302250; omega)⟩) hS (fun q _ h => h.1) (fun q h => h.1) (fun r9 u t9 H1 locs1 ht hvm hw hQ hz1 hk1 hS1 => ?_)
  refine lv_pop hx hb dL_law_384 rfl ?_
  obtain ⟨-, hI1, hO1, hz9⟩ := hQ
  rw [ht] at hI1 hO1 hz9
  have c_z1 := c_z.kept hz9
  rw [hw] at hO1
  have hX1 : lX (dC, dI) ca s.heap.size m0 n1 o z9 ff pv st H1 := ⟨X, t1, t2, t3, t4, t5, hU, hI1, g_o, g1, g2, g3, g4, g5, hpv, hst, hO1, ht9, hF, g_z, c_z1⟩
  exact law_m4 C kk hX1 (lM_kept hM hk1) hR hS1 hl ⟨by omega, by omega⟩
set_option maxHeartbeats 4000000 in
set_option maxRecDepth 100000 in
theorem law_m5 {p : Program} {l : Launch} {e : Env} {s : State} {m : MethodId} {below : List Frame} {meth : Method} {c : Code} {b L : Nat} {xs : Nat → Int32} {dC : Nat → ClassId} {dI : Nat → Nat → Nat} {ca : Nat → ClassId} {o m0 n1 z9 k : Nat} {ff fm : Nat → Int32} (C : lCx p s m meth c b L xs (dC, dI) ca o m0 n1 k) (kk : lKk p l e s m below meth c b (dC, dI) ca o m0 n1 z9 k) {pv : Option Nat} {st : Int} {H : Heap} {locs : List Loc} {ls : Array Slot} {cells slots : Nat} (hX : lX (dC, dI) ca s.heap.size m0 n1 o z9 ff pv st H) (hM : lM (dC, dI) ca m0 n1 fm H) (hR : lR ff fm) (hS : va_S (fun q : Nat => s.heap.size ≤ q) s.heap H locs) (hl : lv_has ls 4 [(3, .int (kz (6 * (k : Int)))), (2, .ref m0), (1, .ref o), (0, .ref b)]) (hB : bud (k + 1) pv cells slots) : W p l e room_1 s m #[Value.ref b] below meth c H locs cells slots (lw_Z below #[Value.ref b] s) (F0 m 431 ls []) := by
  obtain ⟨⟨hx, hb, hr, hml, hown, hts0, hSc, hbl, hlocks, hgv⟩, hL, hJ, hKm, hAo, hAm, hk⟩ := id C
  have hb : c.code = cL_law := hb
  have hown : s.vm.findClass RL = some m.cls := hown
  have hts : ∀ w ∈ wsL_law, w.before #[Value.ref b] s = true := fun w h => hts0 w (wsL_law_in w h)
  have hbA : ¬ (fun q : Nat => s.heap.size ≤ q) b := Nat.not_le.mpr hbl
  obtain ⟨hB1, hB2⟩ := hB
  obtain ⟨Xm, zi, zl, mS9, mZ9, ⟨mI9, mO9⟩, c_m⟩ := id hM
  refine lv_aload_n hx hb dL_law_431 rfl (lv_at hl 1 rfl) ?_
  refine lv_aload_n hx hb dL_law_432 rfl (lv_at hl 3 rfl) ?_
  refine lv_iload_n hx hb dL_law_433 rfl (lv_at hl 0 rfl) ?_
  refine lv_iconst (v := kz 1) hx hb dL_law_434 rfl ?_
  refine iz_iadd hx hb dL_law_435 ?_
  refine va_sld hx hb hSc hbl hbA hS (kz_in (n := L) (z := 6 * (k : Int) + 1) (by omega) (by omega) (by omega)) dL_law_436 ?_
  refine iz_any (fun z_m1 z_m1a z_m1b _ => ?_)
  refine lv_aload_n hx hb dL_law_437 rfl (lv_at hl 3 rfl) ?_
  refine lv_iload_n hx hb dL_law_438 rfl (lv_at hl 0 rfl) ?_
  refine lv_iconst (v := kz 2) hx hb dL_law_439 rfl ?_
  refine iz_iadd hx hb dL_law_440 ?_
  refine va_sld hx hb hSc hbl hbA hS (kz_in (n := L) (z := 6 * (k : Int) + 2) (by omega) (by omega) (by omega)) dL_law_441 ?_
  refine iz_any (fun z_m2 z_m2a z_m2b _ => ?_)
  refine lv_aload_n hx hb dL_law_442 rfl (lv_at hl 3 rfl) ?_
  refine lv_iload_n hx hb dL_law_443 rfl (lv_at hl 0 rfl) ?_
  refine lv_iconst (v := kz 3) hx hb dL_law_444 rfl ?_
  refine iz_iadd hx hb dL_law_445 ?_
  refine va_sld hx hb hSc hbl hbA hS (kz_in (n := L) (z := 6 * (k : Int) + 3) (by omega) (by omega) (by omega)) dL_law_446 ?_
  refine iz_any (fun z_m3 z_m3a z_m3b _ => ?_)
  have key : ∀ kp2 : Int, ((z_m3 = 0 ∧ kp2 = 0) ∨ (¬ z_m3 = 0 ∧ kp2 = 1)) → W p l e room_1 s m #[Value.ref b] below meth c H locs cells slots (lw_Z below #[Value.ref b] s) (F0 m 455 ls (.int (kz kp2) :: [.int (kz z_m2), .int (kz z_m1), .ref m0])) := ?_
  · refine iz_eqz (tgt := 454) hx hb dL_law_447 (by decide) (by unfold rg2; omega) (fun b9 => ?_) (fun b9 => ?_)
    · refine lv_iconst (v := kz 0) hx hb dL_law_454 rfl ?_
      exact key 0 (Or.inl ⟨b9, rfl⟩)
    · refine lv_iconst (v := kz 1) hx hb dL_law_450 rfl ?_
      refine lv_goto (tgt := 455) hx hb dL_law_451 (by decide) ?_
      exact key 1 (Or.inr ⟨b9, rfl⟩)
  intro kp2 hkp2v
  have hkp2 : kp2 = 0 ∨ kp2 = 1 := by omega
  refine va_calli (va_runV (As := [.int (kz z_m1), .int (kz z_m2), .int (kz kp2)]) (rest := []) ⟨hx, hb, hml, hown, hts⟩ (m_meetsF l dC dI ca (lAm m0 n1) Xm m0 (mam n1) 18 (Or.inr rfl) zi zl mS9 mZ9 z_m1 z_m2 kp2 ⟨z_m1a, z_m1b⟩ ⟨z_m2a, z_m2b⟩ (by omega)) (cwV 3 hts gL_law_X12_meets rfl rfl rfl (by decide +kernel) ⟨Nat.le_of_ble_eq_true rfl, Nat.le_of_ble_eq_true rfl⟩) ⟨fun a U g mk q => by obtain ⟨q0, qK, qI⟩ := q; exact ⟨q0, va_K.moved (u := U) (U := U.calling g mk a) (Vm.Alike.refl U.vm) qK, qI⟩, va_recv hKm (at_P mO9) (ci := 12) (q0 := 0) rfl rfl, fun U hU9 hW => ⟨rfl, va_K.moved hW.alike hKm, by rw [hU9]; exact ⟨mI9, mO9⟩⟩⟩ rfl rfl hl.1 rfl (lv_room (Nat.le_of_ble_eq_true rfl)) dL_law_455 ⟨(by show _ + 0 ≤ 600000; omega), (by show _ + 0 ≤ 7302250; omega)⟩) hS (fun q _ h => hAm q h.1) (fun q h => hAm q h.1) (fun r9 u t9 H1 locs1 ht hvm hw hQ hz1 hk1 hS1 => ?_)
  refine lv_pop hx hb dL_law_458 rfl ?_
  refine lv_goto (tgt := 1022) hx hb dL_law_459 (by decide) ?_
  obtain ⟨-, mI1⟩ := hQ
  rw [ht] at mI1
  have hM1 : lM (dC, dI) ca m0 n1 fm H1 := ⟨Xm, u.1, u.2, mS9, hw.1, mI1, c_m.kept (hk1 _ c_m.lt (fun h9 => h9.2 rfl))⟩
  exact kk ff fm pv st H1 locs1 ls cells slots (lX_kept hX hAo (fun q h1 h2 => hk1 q h1 (fun h => h2 h.1))) hM1 hR hS1 hl ⟨hB1, hB2⟩
set_option maxHeartbeats 4000000 in
set_option maxRecDepth 100000 in
theorem law_c5 {p : Program} {l : Launch} {e : Env} {s : State} {m : MethodId} {below : List Frame} {meth : Method} {c : Code} {b L : Nat} {xs : Nat → Int32} {dC : Nat → ClassId} {dI : Nat → Nat → Nat} {ca : Nat → ClassId} {o m0 n1 z9 k : Nat} {ff fm : Nat → Int32} (C : lCx p s m meth c b L xs (dC, dI) ca o m0 n1 k) (kk : lKk p l e s m below meth c b (dC, dI) ca o m0 n1 z9 k) {pv : Option Nat} {st : Int} {H : Heap} {locs : List Loc} {ls : Array Slot} {cells slots : Nat} (hX : lX (dC, dI) ca s.heap.size m0 n1 o z9 ff pv st H) (hM : lM (dC, dI) ca m0 n1 fm H) (hR : lR ff fm) (hS : va_S (fun q : Nat => s.heap.size ≤ q) s.heap H locs) (hl : lv_has ls 4 [(3, .int (kz (6 * (k : Int)))), (2, .ref m0), (1, .ref o), (0, .ref b)]) (hB : bud k pv cells slots) : W p l e room_1 s m #[Value.ref b] below meth c H locs cells slots (lw_Z below #[Value.ref b] s) (F0 m 403 ls []) := by
  obtain ⟨⟨hx, hb, hr, hml, hown, hts0, hSc, hbl, hlocks, hgv⟩, hL, hJ, hKm, hAo, hAm, hk⟩ := id C
  have hb : c.code = cL_law := hb
  have hown : s.vm.findClass RL = some m.cls := hown
  have hts : ∀ w ∈ wsL_law, w.before #[Value.ref b] s = true := fun w h => hts0 w (wsL_law_in w h)
  have hbA : ¬ (fun q : Nat => s.heap.size ≤ q) b := Nat.not_le.mpr hbl
  obtain ⟨hB1, hB2⟩ := hB
  obtain ⟨X, t1, t2, t3, t4, t5, hU, hI, g_o, g1, g2, g3, g4, g5, hpv, hst, hO, ht9, hF, g_z, c_z⟩ := id hX
  refine lv_aload_n hx hb dL_law_403 rfl (lv_at hl 2 rfl) ?_
  refine lv_aload_n hx hb dL_law_404 rfl (lv_at hl 3 rfl) ?_
  refine lv_iload_n hx hb dL_law_405 rfl (lv_at hl 0 rfl) ?_
  refine lv_iconst (v := kz 1) hx hb dL_law_406 rfl ?_
  refine iz_iadd hx hb dL_law_407 ?_
  refine va_sld hx hb hSc hbl hbA hS (kz_in (n := L) (z := 6 * (k : Int) + 1) (by omega) (by omega) (by omega)) dL_law_408 ?_
  refine iz_any (fun z_o1 z_o1a z_o1b _ => ?_)
  refine lv_aload_n hx hb dL_law_409 rfl (lv_at hl 3 rfl) ?_
  refine lv_iload_n hx hb dL_law_410 rfl (lv_at hl 0 rfl) ?_
  refine lv_iconst (v := kz 2) hx hb dL_law_411 rfl ?_
  refine iz_iadd hx hb dL_law_412 ?_
  refine va_sld hx hb hSc hbl hbA hS (kz_in (n := L) (z := 6 * (k : Int) + 2) (by omega) (by omega) (by omega)) dL_law_413 ?_
  refine iz_any (fun z_o2 z_o2a z_o2b _ => ?_)
  refine lv_aload_n hx hb dL_law_414 rfl (lv_at hl 3 rfl) ?_
  refine lv_iload_n hx hb dL_law_415 rfl (lv_at hl 0 rfl) ?_
  refine lv_iconst (v := kz 3) hx hb dL_law_416 rfl ?_
  refine iz_iadd hx hb dL_law_417 ?_
  refine va_sld hx hb hSc hbl hbA hS (kz_in (n := L) (z := 6 * (k : Int) + 3) (by omega) (by omega) (by omega)) dL_law_418 ?_
  refine iz_any (fun z_o3 z_o3a z_o3b _ => ?_)
  have key : ∀ kp : Int, ((z_o3 = 0 ∧ kp = 0) ∨ (¬ z_o3 = 0 ∧ kp = 1)) → W p l e room_1 s m #[Value.ref b] below meth c H locs cells slots (lw_Z below #[Value.ref b] s) (F0 m 427 ls (.int (kz kp) :: [.int (kz z_o2), .int (kz z_o1), .ref o])) := ?_
  · refine iz_eqz (tgt := 426) hx hb dL_law_419 (by decide) (by unfold rg2; omega) (fun b9 => ?_) (fun b9 => ?_)
    · refine lv_iconst (v := kz 0) hx hb dL_law_426 rfl ?_
      exact key 0 (Or.inl ⟨b9, rfl⟩)
    · refine lv_iconst (v := kz 1) hx hb dL_law_422 rfl ?_
      refine lv_goto (tgt := 427) hx hb dL_law_423 (by decide) ?_
      exact key 1 (Or.inr ⟨b9, rfl⟩)
  intro kp hkpv
  have hkp : kp = 0 ∨ kp = 1 := by omega
  refine va_calli (va_runV (As := [.int (kz z_o1), .int (kz z_o2), .int (kz kp)]) (rest := []) ⟨hx, hb, hml, hown, hts⟩ (j_meetsZ l dC dI ca (lAx s.heap.size m0 n1) X hU H z9 229 20 36 (-1) 5 g_z (Or.inr rfl) (by decide) o t1 t2 t3 t4 t5 pv st z_o1 z_o2 kp g_o hAo g1 g2 g3 g4 g5 hpv hst ⟨z_o1a, z_o1b⟩ ⟨z_o2a, z_o2b⟩ (by omega)) (cwV 3 hts gL_law_X11_meets rfl rfl rfl (by decide +kernel) ⟨Nat.le_of_ble_eq_true rfl, Nat.le_of_ble_eq_true rfl⟩) ⟨fun a U g mk q => by obtain ⟨q0, qH, ⟨qK, qN⟩, qI⟩ := q; exact ⟨q0, qH, ⟨va_K.moved (u := U) (U := U.calling g mk a) (Vm.Alike.refl U.vm) qK, jN_same (U := U.calling g mk a) rfl qN⟩, qI⟩, va_recv hKm (at_P hO) (ci := 11) (q0 := 0) rfl rfl, fun U hU9 hW => ⟨rfl, hU9, jK_warm hW hJ, by rw [hU9]; exact ⟨hI, hO⟩⟩⟩ rfl rfl hl.1 rfl (lv_room (Nat.le_of_ble_eq_true rfl)) dL_law_427 ⟨(by show _ + 0 ≤ 600000; omega), (by show _ + 0 ≤ 7302250; omega)⟩) hS (fun q _ h => h.1) (fun q h => h.1) (fun r9 u t9 H1 locs1 ht hvm hw hQ hz1 hk1 hS1 => ?_)
  refine lv_pop hx hb dL_law_430 rfl ?_
  obtain ⟨-, hI1, hO1, hz9⟩ := hQ
  rw [ht] at hI1 hO1 hz9
  have c_z1 := c_z.kept hz9
  rw [hw] at hO1
  have hX1 : lX (dC, dI) ca s.heap.size m0 n1 o z9 ff pv st H1 := ⟨X, t1, t2, t3, t4, t5, hU, hI1, g_o, g1, g2, g3, g4, g5, hpv, hst, hO1, ht9, hF, g_z, c_z1⟩
  exact law_m5 C kk hX1 (lM_kept hM hk1) hR hS1 hl ⟨by omega, by omega⟩
set_option maxHeartbeats 4000000 in
set_option maxRecDepth 100000 in
theorem law_c6 {p : Program} {l : Launch} {e : Env} {s : State} {m : MethodId} {below : List Frame} {meth : Method} {c : Code} {b L : Nat} {xs : Nat → Int32} {dC : Nat → ClassId} {dI : Nat → Nat → Nat} {ca : Nat → ClassId} {o m0 n1 z9 k : Nat} {ff fm : Nat → Int32} (C : lCx p s m meth c b L xs (dC, dI) ca o m0 n1 k) (kk : lKk p l e s m below meth c b (dC, dI) ca o m0 n1 z9 k) {pv : Option Nat} {st : Int} {H : Heap} {locs : List Loc} {ls : Array Slot} {cells slots : Nat} (hX : lX (dC, dI) ca s.heap.size m0 n1 o z9 ff pv st H) (hM : lM (dC, dI) ca m0 n1 fm H) (hR : lR ff fm) (hS : va_S (fun q : Nat => s.heap.size ≤ q) s.heap H locs) (hl : lv_has ls 4 [(3, .int (kz (6 * (k : Int)))), (2, .ref m0), (1, .ref o), (0, .ref b)]) (hB : bud k pv cells slots) : W p l e room_1 s m #[Value.ref b] below meth c H locs cells slots (lw_Z below #[Value.ref b] s) (F0 m 462 ls []) := by
  obtain ⟨⟨hx, hb, hr, hml, hown, hts0, hSc, hbl, hlocks, hgv⟩, hL, hJ, hKm, hAo, hAm, hk⟩ := id C
  have hb : c.code = cL_law := hb
  have hown : s.vm.findClass RL = some m.cls := hown
  have hts : ∀ w ∈ wsL_law, w.before #[Value.ref b] s = true := fun w h => hts0 w (wsL_law_in w h)
  have hbA : ¬ (fun q : Nat => s.heap.size ≤ q) b := Nat.not_le.mpr hbl
  obtain ⟨hB1, hB2⟩ := hB
  obtain ⟨X, t1, t2, t3, t4, t5, hU, hI, g_o, g1, g2, g3, g4, g5, hpv, hst, hO, ht9, hF, g_z, c_z⟩ := id hX
  refine lv_aload_n hx hb dL_law_462 rfl (lv_at hl 2 rfl) ?_
  refine lv_aload_n hx hb dL_law_463 rfl (lv_at hl 3 rfl) ?_
  refine lv_iload_n hx hb dL_law_464 rfl (lv_at hl 0 rfl) ?_
  refine lv_iconst (v := kz 1) hx hb dL_law_465 rfl ?_
  refine iz_iadd hx hb dL_law_466 ?_
  refine va_sld hx hb hSc hbl hbA hS (kz_in (n := L) (z := 6 * (k : Int) + 1) (by omega) (by omega) (by omega)) dL_law_467 ?_
  refine iz_any (fun z_o1 z_o1a z_o1b z_o1e => ?_)
  refine lv_aload_n hx hb dL_law_468 rfl (lv_at hl 3 rfl) ?_
  refine lv_iload_n hx hb dL_law_469 rfl (lv_at hl 0 rfl) ?_
  refine lv_iconst (v := kz 2) hx hb dL_law_470 rfl ?_
  refine iz_iadd hx hb dL_law_471 ?_
  refine va_sld hx hb hSc hbl hbA hS (kz_in (n := L) (z := 6 * (k : Int) + 2) (by omega) (by omega) (by omega)) dL_law_472 ?_
  refine iz_any (fun z_o2 z_o2a z_o2b z_o2e => ?_)
  refine lv_aload_n hx hb dL_law_473 rfl (lv_at hl 3 rfl) ?_
  refine lv_iload_n hx hb dL_law_474 rfl (lv_at hl 0 rfl) ?_
  refine lv_iconst (v := kz 3) hx hb dL_law_475 rfl ?_
  refine iz_iadd hx hb dL_law_476 ?_
  refine va_sld hx hb hSc hbl hbA hS (kz_in (n := L) (z := 6 * (k : Int) + 3) (by omega) (by omega) (by omega)) dL_law_477 ?_
  refine iz_any (fun z_o3 z_o3a z_o3b z_o3e => ?_)
  refine va_calli (va_runV (As := [.int (kz z_o1), .int (kz z_o2), .int (kz z_o3)]) (rest := []) ⟨hx, hb, hml, hown, hts⟩ (j_becomesE l dC dI ca (lAx s.heap.size m0 n1) X hU H z9 ff g_z o t1 t2 t3 t4 t5 pv st z_o1 z_o2 z_o3 g_o hAo g1 g2 g3 g4 g5 hpv hst ⟨z_o1a, z_o1b⟩ ⟨z_o2a, z_o2b⟩ ⟨z_o3a, z_o3b⟩) (cwV 3 hts gL_law_X11_becomes rfl rfl rfl (by decide +kernel) ⟨Nat.le_of_ble_eq_true rfl, Nat.le_of_ble_eq_true rfl⟩) ⟨fun a U g mk q => by obtain ⟨q0, qH, ⟨qK, qN⟩, qI⟩ := q; exact ⟨q0, qH, ⟨va_K.moved (u := U) (U := U.calling g mk a) (Vm.Alike.refl U.vm) qK, jN_same (U := U.calling g mk a) rfl qN⟩, qI⟩, va_recv hKm (at_P hO) (ci := 11) (q0 := 0) rfl rfl, fun U hU9 hW => ⟨rfl, hU9, jK_warm hW hJ, by rw [hU9]; exact ⟨hI, hO, c_z⟩⟩⟩ rfl rfl hl.1 rfl (lv_room (Nat.le_of_ble_eq_true rfl)) dL_law_478 ⟨(by show _ + 0 ≤ 600000; omega), (by show _ + 0 ≤ 7302250; omega)⟩) hS (fun q _ h => h.1) (fun q h => h.1) (fun r9 u t9 H1 locs1 ht hvm hw hQ hz1 hk1 hS1 => ?_)
  obtain ⟨-, hI1, hO1, c_z1⟩ := hQ
  rw [ht] at hI1 hO1 c_z1
  obtain ⟨hw1, hw2⟩ := hw
  rw [hw1] at hO1
  have hM1 := lM_kept hM hk1
  obtain ⟨Xm, zi, zl, mS9, mZ9, ⟨mI9, mO9⟩, c_m⟩ := id hM1
  refine lv_aload_n hx hb dL_law_481 rfl (lv_at hl 1 rfl) ?_
  refine lv_aload_n hx hb dL_law_482 rfl (lv_at hl 3 rfl) ?_
  refine lv_iload_n hx hb dL_law_483 rfl (lv_at hl 0 rfl) ?_
  refine lv_iconst (v := kz 1) hx hb dL_law_484 rfl ?_
  refine iz_iadd hx hb dL_law_485 ?_
  refine va_sld hx hb hSc hbl hbA hS1 (kz_in (n := L) (z := 6 * (k : Int) + 1) (by omega) (by omega) (by omega)) dL_law_486 ?_
  refine iz_any (fun z_m1 z_m1a z_m1b z_m1e => ?_)
  refine lv_aload_n hx hb dL_law_487 rfl (lv_at hl 3 rfl) ?_
  refine lv_iload_n hx hb dL_law_488 rfl (lv_at hl 0 rfl) ?_
  refine lv_iconst (v := kz 2) hx hb dL_law_489 rfl ?_
  refine iz_iadd hx hb dL_law_490 ?_
  refine va_sld hx hb hSc hbl hbA hS1 (kz_in (n := L) (z := 6 * (k : Int) + 2) (by omega) (by omega) (by omega)) dL_law_491 ?_
  refine iz_any (fun z_m2 z_m2a z_m2b z_m2e => ?_)
  refine lv_aload_n hx hb dL_law_492 rfl (lv_at hl 3 rfl) ?_
  refine lv_iload_n hx hb dL_law_493 rfl (lv_at hl 0 rfl) ?_
  refine lv_iconst (v := kz 3) hx hb dL_law_494 rfl ?_
  refine iz_iadd hx hb dL_law_495 ?_
  refine va_sld hx hb hSc hbl hbA hS1 (kz_in (n := L) (z := 6 * (k : Int) + 3) (by omega) (by omega) (by omega)) dL_law_496 ?_
  refine iz_any (fun z_m3 z_m3a z_m3b z_m3e => ?_)
  refine va_calli (va_runV (As := [.int (kz z_m1), .int (kz z_m2), .int (kz z_m3)]) (rest := [.int r9]) ⟨hx, hb, hml, hown, hts⟩ (m_becomesE l dC dI ca (lAm m0 n1) Xm m0 (mam n1) zi zl mS9 mZ9 z_m1 z_m2 z_m3 ⟨z_m1a, z_m1b⟩ ⟨z_m2a, z_m2b⟩ ⟨z_m3a, z_m3b⟩ fm) (cwV 3 hts gL_law_X12_becomes rfl rfl rfl (by decide +kernel) ⟨Nat.le_of_ble_eq_true rfl, Nat.le_of_ble_eq_true rfl⟩) ⟨fun a U g mk q => by obtain ⟨q0, qK, qI⟩ := q; exact ⟨q0, va_K.moved (u := U) (U := U.calling g mk a) (Vm.Alike.refl U.vm) qK, qI⟩, va_recv hKm (at_P mO9) (ci := 12) (q0 := 0) rfl rfl, fun U hU9 hW => ⟨rfl, va_K.moved hW.alike hKm, by rw [hU9]; exact ⟨⟨mI9, mO9⟩, c_m⟩⟩⟩ rfl rfl hl.1 rfl (lv_room (Nat.le_of_ble_eq_true rfl)) dL_law_497 ⟨(by show _ + 0 ≤ 600000; omega), (by show _ + 0 ≤ 7302250; omega)⟩) hS1 (fun q _ h => hAm q h) (fun q h => hAm q h) (fun r8 v t8 H2 locs2 ht2 hvm2 hv2 hQ2 hz2 hk2 hS2 => ?_)
  obtain ⟨-, mI2, c_m2⟩ := hQ2
  rw [ht2] at mI2 c_m2
  obtain ⟨hZ2, -, hv3⟩ := hv2
  have e1 : z_m1 = z_o1 := ((kz_eq ⟨z_o1a, z_o1b, z_m1a, z_m1b⟩).mp (z_o1e.symm.trans z_m1e)).symm
  have e2 : z_m2 = z_o2 := ((kz_eq ⟨z_o2a, z_o2b, z_m2a, z_m2b⟩).mp (z_o2e.symm.trans z_m2e)).symm
  have e3 : z_m3 = z_o3 := ((kz_eq ⟨z_o3a, z_o3b, z_m3a, z_m3b⟩).mp (z_o3e.symm.trans z_m3e)).symm
  rw [e1, e2, e3] at hv3
  obtain ⟨hr9, hq9⟩ := bc_eq hR hw2 hv3
  obtain ⟨z9r, z9ra, z9rb, rfl⟩ := kz_ex r9
  rw [← hr9]
  refine iz_eq (tgt := 1022) hx hb dL_law_500 (by decide) (by unfold rg2; omega) (fun _ => ?_) (fun h9 => absurd rfl h9)
  have hX1 : lX (dC, dI) ca s.heap.size m0 n1 o z9 u.2 pv st H1 := ⟨X, t1, t2, t3, t4, t5, hU, hI1, g_o, g1, g2, g3, g4, g5, hpv, hst, hO1, ht9, hF, g_z, c_z1⟩
  have hM2 : lM (dC, dI) ca m0 n1 v.2.2 H2 := ⟨Xm, v.1, v.2.1, mS9, hZ2, mI2, c_m2⟩
  exact kk u.2 v.2.2 pv st H2 locs2 ls cells slots (lX_kept hX1 hAo hk2) hM2 hq9 hS2 hl ⟨by omega, by omega⟩
set_option maxHeartbeats 4000000 in
set_option maxRecDepth 100000 in
theorem law_m7 {p : Program} {l : Launch} {e : Env} {s : State} {m : MethodId} {below : List Frame} {meth : Method} {c : Code} {b L : Nat} {xs : Nat → Int32} {dC : Nat → ClassId} {dI : Nat → Nat → Nat} {ca : Nat → ClassId} {o m0 n1 z9 k : Nat} {ff fm : Nat → Int32} (C : lCx p s m meth c b L xs (dC, dI) ca o m0 n1 k) (kk : lKk p l e s m below meth c b (dC, dI) ca o m0 n1 z9 k) {pv : Option Nat} {st : Int} {H : Heap} {locs : List Loc} {ls : Array Slot} {cells slots : Nat} (hX : lX (dC, dI) ca s.heap.size m0 n1 o z9 ff pv st H) (hM : lM (dC, dI) ca m0 n1 fm H) (hR : lR ff fm) (hS : va_S (fun q : Nat => s.heap.size ≤ q) s.heap H locs) (hl : lv_has ls 4 [(3, .int (kz (6 * (k : Int)))), (2, .ref m0), (1, .ref o), (0, .ref b)]) (hB : bud (k + 1) pv cells slots) : W p l e room_1 s m #[Value.ref b] below meth c H locs cells slots (lw_Z below #[Value.ref b] s) (F0 m 525 ls []) := by
  obtain ⟨⟨hx, hb, hr, hml, hown, hts0, hSc, hbl, hlocks, hgv⟩, hL, hJ, hKm, hAo, hAm, hk⟩ := id C
  have hb : c.code = cL_law := hb
  have hown : s.vm.findClass RL = some m.cls := hown
  have hts : ∀ w ∈ wsL_law, w.before #[Value.ref b] s = true := fun w h => hts0 w (wsL_law_in w h)
  have hbA : ¬ (fun q : Nat => s.heap.size ≤ q) b := Nat.not_le.mpr hbl
  obtain ⟨hB1, hB2⟩ := hB
  obtain ⟨Xm, zi, zl, mS9, mZ9, ⟨mI9, mO9⟩, c_m⟩ := id hM
  refine lv_aload_n hx hb dL_law_525 rfl (lv_at hl 1 rfl) ?_
  refine lv_aload_n hx hb dL_law_526 rfl (lv_at hl 3 rfl) ?_
  refine lv_iload_n hx hb dL_law_527 rfl (lv_at hl 0 rfl) ?_
  refine lv_iconst (v := kz 1) hx hb dL_law_528 rfl ?_
  refine iz_iadd hx hb dL_law_529 ?_
  refine va_sld hx hb hSc hbl hbA hS (kz_in (n := L) (z := 6 * (k : Int) + 1) (by omega) (by omega) (by omega)) dL_law_530 ?_
  refine iz_any (fun z_m1 z_m1a z_m1b _ => ?_)
  refine lv_aload_n hx hb dL_law_531 rfl (lv_at hl 3 rfl) ?_
  refine lv_iload_n hx hb dL_law_532 rfl (lv_at hl 0 rfl) ?_
  refine lv_iconst (v := kz 2) hx hb dL_law_533 rfl ?_
  refine iz_iadd hx hb dL_law_534 ?_
  refine va_sld hx hb hSc hbl hbA hS (kz_in (n := L) (z := 6 * (k : Int) + 2) (by omega) (by omega) (by omega)) dL_law_535 ?_
  refine iz_any (fun z_m2 z_m2a z_m2b _ => ?_)
  refine lv_aload_n hx hb dL_law_536 rfl (lv_at hl 3 rfl) ?_
  refine lv_iload_n hx hb dL_law_537 rfl (lv_at hl 0 rfl) ?_
  refine lv_iconst (v := kz 3) hx hb dL_law_538 rfl ?_
  refine iz_iadd hx hb dL_law_539 ?_
  refine va_sld hx hb hSc hbl hbA hS (kz_in (n := L) (z := 6 * (k : Int) + 3) (by omega) (by omega) (by omega)) dL_law_540 ?_
  refine iz_any (fun z_m3 z_m3a z_m3b _ => ?_)
  refine vp_callSi (va_Run.run (va_runV (As := [.int (kz z_m1), .int (kz z_m2), .int (kz z_m3)]) (rest := []) ⟨hx, hb, hml, hown, hts⟩ (m_fits l dC dI ca (lAm m0 n1) Xm m0 (mam n1) zi zl mS9 mZ9 z_m1 z_m2 z_m3 ⟨z_m1a, z_m1b⟩ ⟨z_m2a, z_m2b⟩ ⟨z_m3a, z_m3b⟩) (cwV 3 hts gL_law_X12_fits rfl rfl rfl (by decide +kernel) ⟨Nat.le_of_ble_eq_true rfl, Nat.le_of_ble_eq_true rfl⟩) ⟨fun a U g mk q => by obtain ⟨q0, qK, qI⟩ := q; exact ⟨q0, va_K.moved (u := U) (U := U.calling g mk a) (Vm.Alike.refl U.vm) qK, qI⟩, va_recv hKm (at_P mO9) (ci := 12) (q0 := 0) rfl rfl, fun U hU9 hW => ⟨rfl, va_K.moved hW.alike hKm, by rw [hU9]; exact ⟨mI9, mO9⟩⟩⟩ rfl rfl hl.1 rfl (lv_room (Nat.le_of_ble_eq_true rfl)) dL_law_541 ⟨(by show _ + 0 ≤ 600000; omega), (by show _ + 0 ≤ 7302250; omega)⟩)) (fun r9 _ => ?_)
  refine lv_pop hx hb dL_law_544 rfl ?_
  refine lv_goto (tgt := 1022) hx hb dL_law_545 (by decide) ?_
  exact kk ff fm pv st H locs ls cells slots hX hM hR hS hl ⟨hB1, hB2⟩
set_option maxHeartbeats 4000000 in
set_option maxRecDepth 100000 in
theorem law_c7 {p : Program} {l : Launch} {e : Env} {s : State} {m : MethodId} {below : List Frame} {meth : Method} {c : Code} {b L : Nat} {xs : Nat → Int32} {dC : Nat → ClassId} {dI : Nat → Nat → Nat} {ca : Nat → ClassId} {o m0 n1 z9 k : Nat} {ff fm : Nat → Int32} (C : lCx p s m meth c b L xs (dC, dI) ca o m0 n1 k) (kk : lKk p l e s m below meth c b (dC, dI) ca o m0 n1 z9 k) {pv : Option Nat} {st : Int} {H : Heap} {locs : List Loc} {ls : Array Slot} {cells slots : Nat} (hX : lX (dC, dI) ca s.heap.size m0 n1 o z9 ff pv st H) (hM : lM (dC, dI) ca m0 n1 fm H) (hR : lR ff fm) (hS : va_S (fun q : Nat => s.heap.size ≤ q) s.heap H locs) (hl : lv_has ls 4 [(3, .int (kz (6 * (k : Int)))), (2, .ref m0), (1, .ref o), (0, .ref b)]) (hB : bud k pv cells slots) : W p l e room_1 s m #[Value.ref b] below meth c H locs cells slots (lw_Z below #[Value.ref b] s) (F0 m 505 ls []) := by
  obtain ⟨⟨hx, hb, hr, hml, hown, hts0, hSc, hbl, hlocks, hgv⟩, hL, hJ, hKm, hAo, hAm, hk⟩ := id C
  have hb : c.code = cL_law := hb
  have hown : s.vm.findClass RL = some m.cls := hown
  have hts : ∀ w ∈ wsL_law, w.before #[Value.ref b] s = true := fun w h => hts0 w (wsL_law_in w h)
  have hbA : ¬ (fun q : Nat => s.heap.size ≤ q) b := Nat.not_le.mpr hbl
  obtain ⟨hB1, hB2⟩ := hB
  obtain ⟨X, t1, t2, t3, t4, t5, hU, hI, g_o, g1, g2, g3, g4, g5, hpv, hst, hO, ht9, hF, g_z, c_z⟩ := id hX
  refine lv_aload_n hx hb dL_law_505 rfl (lv_at hl 2 rfl) ?_
  refine lv_aload_n hx hb dL_law_506 rfl (lv_at hl 3 rfl) ?_
  refine lv_iload_n hx hb dL_law_507 rfl (lv_at hl 0 rfl) ?_
  refine lv_iconst (v := kz 1) hx hb dL_law_508 rfl ?_
  refine iz_iadd hx hb dL_law_509 ?_
  refine va_sld hx hb hSc hbl hbA hS (kz_in (n := L) (z := 6 * (k : Int) + 1) (by omega) (by omega) (by omega)) dL_law_510 ?_
  refine iz_any (fun z_o1 z_o1a z_o1b _ => ?_)
  refine lv_aload_n hx hb dL_law_511 rfl (lv_at hl 3 rfl) ?_
  refine lv_iload_n hx hb dL_law_512 rfl (lv_at hl 0 rfl) ?_
  refine lv_iconst (v := kz 2) hx hb dL_law_513 rfl ?_
  refine iz_iadd hx hb dL_law_514 ?_
  refine va_sld hx hb hSc hbl hbA hS (kz_in (n := L) (z := 6 * (k : Int) + 2) (by omega) (by omega) (by omega)) dL_law_515 ?_
  refine iz_any (fun z_o2 z_o2a z_o2b _ => ?_)
  refine lv_aload_n hx hb dL_law_516 rfl (lv_at hl 3 rfl) ?_
  refine lv_iload_n hx hb dL_law_517 rfl (lv_at hl 0 rfl) ?_
  refine lv_iconst (v := kz 3) hx hb dL_law_518 rfl ?_
  refine iz_iadd hx hb dL_law_519 ?_
  refine va_sld hx hb hSc hbl hbA hS (kz_in (n := L) (z := 6 * (k : Int) + 3) (by omega) (by omega) (by omega)) dL_law_520 ?_
  refine iz_any (fun z_o3 z_o3a z_o3b _ => ?_)
  refine vp_callSi (va_Run.run (va_runV (As := [.int (kz z_o1), .int (kz z_o2), .int (kz z_o3)]) (rest := []) ⟨hx, hb, hml, hown, hts⟩ (j_fits l dC dI ca (lAx s.heap.size m0 n1) X hU o t1 t2 t3 t4 t5 pv st z_o1 z_o2 z_o3 g_o hAo g1 g2 g3 g4 g5 hpv hst ⟨z_o1a, z_o1b⟩ ⟨z_o2a, z_o2b⟩ ⟨z_o3a, z_o3b⟩) (cwV 3 hts gL_law_X11_fits rfl rfl rfl (by decide +kernel) ⟨Nat.le_of_ble_eq_true rfl, Nat.le_of_ble_eq_true rfl⟩) ⟨fun a U g mk q => by obtain ⟨q0, ⟨qK, qN⟩, qI⟩ := q; exact ⟨q0, ⟨va_K.moved (u := U) (U := U.calling g mk a) (Vm.Alike.refl U.vm) qK, jN_same (U := U.calling g mk a) rfl qN⟩, qI⟩, va_recv hKm (at_P hO) (ci := 11) (q0 := 0) rfl rfl, fun U hU9 hW => ⟨rfl, jK_warm hW hJ, by rw [hU9]; exact ⟨hI, hO⟩⟩⟩ rfl rfl hl.1 rfl (lv_room (Nat.le_of_ble_eq_true rfl)) dL_law_521 ⟨(by show _ + 0 ≤ 600000; omega), (by show _ + 0 ≤ 7302250; omega)⟩)) (fun r9 _ => ?_)
  refine lv_pop hx hb dL_law_524 rfl ?_
  exact law_m7 C kk hX hM hR hS hl ⟨by omega, by omega⟩
set_option maxHeartbeats 4000000 in
set_option maxRecDepth 100000 in
theorem law_m8 {p : Program} {l : Launch} {e : Env} {s : State} {m : MethodId} {below : List Frame} {meth : Method} {c : Code} {b L : Nat} {xs : Nat → Int32} {dC : Nat → ClassId} {dI : Nat → Nat → Nat} {ca : Nat → ClassId} {o m0 n1 z9 k : Nat} {ff fm : Nat → Int32} (C : lCx p s m meth c b L xs (dC, dI) ca o m0 n1 k) (kk : lKk p l e s m below meth c b (dC, dI) ca o m0 n1 z9 k) {pv : Option Nat} {st : Int} {H : Heap} {locs : List Loc} {ls : Array Slot} {cells slots : Nat} (hX : lX (dC, dI) ca s.heap.size m0 n1 o z9 ff pv st H) (hM : lM (dC, dI) ca m0 n1 fm H) (hR : lR ff fm) (hS : va_S (fun q : Nat => s.heap.size ≤ q) s.heap H locs) (hl : lv_has ls 4 [(3, .int (kz (6 * (k : Int)))), (2, .ref m0), (1, .ref o), (0, .ref b)]) (hB : bud (k + 1) pv cells slots) : W p l e room_1 s m #[Value.ref b] below meth c H locs cells slots (lw_Z below #[Value.ref b] s) (F0 m 573 ls []) := by
  obtain ⟨⟨hx, hb, hr, hml, hown, hts0, hSc, hbl, hlocks, hgv⟩, hL, hJ, hKm, hAo, hAm, hk⟩ := id C
  have hb : c.code = cL_law := hb
  have hown : s.vm.findClass RL = some m.cls := hown
  have hts : ∀ w ∈ wsL_law, w.before #[Value.ref b] s = true := fun w h => hts0 w (wsL_law_in w h)
  have hbA : ¬ (fun q : Nat => s.heap.size ≤ q) b := Nat.not_le.mpr hbl
  obtain ⟨hB1, hB2⟩ := hB
  obtain ⟨Xm, zi, zl, mS9, mZ9, ⟨mI9, mO9⟩, c_m⟩ := id hM
  refine lv_aload_n hx hb dL_law_573 rfl (lv_at hl 1 rfl) ?_
  refine lv_aload_n hx hb dL_law_574 rfl (lv_at hl 3 rfl) ?_
  refine lv_iload_n hx hb dL_law_575 rfl (lv_at hl 0 rfl) ?_
  refine lv_iconst (v := kz 1) hx hb dL_law_576 rfl ?_
  refine iz_iadd hx hb dL_law_577 ?_
  refine va_sld hx hb hSc hbl hbA hS (kz_in (n := L) (z := 6 * (k : Int) + 1) (by omega) (by omega) (by omega)) dL_law_578 ?_
  refine iz_any (fun z_m1 z_m1a z_m1b _ => ?_)
  refine lv_aload_n hx hb dL_law_579 rfl (lv_at hl 3 rfl) ?_
  refine lv_iload_n hx hb dL_law_580 rfl (lv_at hl 0 rfl) ?_
  refine lv_iconst (v := kz 2) hx hb dL_law_581 rfl ?_
  refine iz_iadd hx hb dL_law_582 ?_
  refine va_sld hx hb hSc hbl hbA hS (kz_in (n := L) (z := 6 * (k : Int) + 2) (by omega) (by omega) (by omega)) dL_law_583 ?_
  refine iz_any (fun z_m2 z_m2a z_m2b _ => ?_)
  refine lv_aload_n hx hb dL_law_584 rfl (lv_at hl 3 rfl) ?_
  refine lv_iload_n hx hb dL_law_585 rfl (lv_at hl 0 rfl) ?_
  refine lv_iconst (v := kz 3) hx hb dL_law_586 rfl ?_
  refine iz_iadd hx hb dL_law_587 ?_
  refine va_sld hx hb hSc hbl hbA hS (kz_in (n := L) (z := 6 * (k : Int) + 3) (by omega) (by omega) (by omega)) dL_law_588 ?_
  refine iz_any (fun z_m3 z_m3a z_m3b _ => ?_)
  refine lv_aload_n hx hb dL_law_589 rfl (lv_at hl 3 rfl) ?_
  refine lv_iload_n hx hb dL_law_590 rfl (lv_at hl 0 rfl) ?_
  refine lv_iconst (v := kz 4) hx hb dL_law_591 rfl ?_
  refine iz_iadd hx hb dL_law_592 ?_
  refine va_sld hx hb hSc hbl hbA hS (kz_in (n := L) (z := 6 * (k : Int) + 4) (by omega) (by omega) (by omega)) dL_law_593 ?_
  refine iz_any (fun z_m4 z_m4a z_m4b _ => ?_)
  refine vp_callSi (va_Run.run (va_runV (As := [.int (kz z_m1), .int (kz z_m2), .int (kz z_m3), .int (kz z_m4)]) (rest := []) ⟨hx, hb, hml, hown, hts⟩ (m_fitting l dC dI ca (lAm m0 n1) Xm m0 (mam n1) zi zl mS9 mZ9 z_m1 z_m2 z_m3 z_m4 ⟨z_m1a, z_m1b⟩ ⟨z_m2a, z_m2b⟩ ⟨z_m3a, z_m3b⟩ ⟨z_m4a, z_m4b⟩) (cwV 4 hts gL_law_X12_fitting rfl rfl rfl (by decide +kernel) ⟨Nat.le_of_ble_eq_true rfl, Nat.le_of_ble_eq_true rfl⟩) ⟨fun a U g mk q => by obtain ⟨q0, qK, qI⟩ := q; exact ⟨q0, va_K.moved (u := U) (U := U.calling g mk a) (Vm.Alike.refl U.vm) qK, qI⟩, va_recv hKm (at_P mO9) (ci := 12) (q0 := 0) rfl rfl, fun U hU9 hW => ⟨rfl, va_K.moved hW.alike hKm, by rw [hU9]; exact ⟨mI9, mO9⟩⟩⟩ rfl rfl hl.1 rfl (lv_room (Nat.le_of_ble_eq_true rfl)) dL_law_594 ⟨(by show _ + 0 ≤ 600000; omega), (by show _ + 0 ≤ 7302250; omega)⟩)) (fun r9 _ => ?_)
  refine lv_pop hx hb dL_law_597 rfl ?_
  refine lv_goto (tgt := 1022) hx hb dL_law_598 (by decide) ?_
  exact kk ff fm pv st H locs ls cells slots hX hM hR hS hl ⟨hB1, hB2⟩
set_option maxHeartbeats 4000000 in
set_option maxRecDepth 100000 in
theorem law_c8 {p : Program} {l : Launch} {e : Env} {s : State} {m : MethodId} {below : List Frame} {meth : Method} {c : Code} {b L : Nat} {xs : Nat → Int32} {dC : Nat → ClassId} {dI : Nat → Nat → Nat} {ca : Nat → ClassId} {o m0 n1 z9 k : Nat} {ff fm : Nat → Int32} (C : lCx p s m meth c b L xs (dC, dI) ca o m0 n1 k) (kk : lKk p l e s m below meth c b (dC, dI) ca o m0 n1 z9 k) {pv : Option Nat} {st : Int} {H : Heap} {locs : List Loc} {ls : Array Slot} {cells slots : Nat} (hX : lX (dC, dI) ca s.heap.size m0 n1 o z9 ff pv st H) (hM : lM (dC, dI) ca m0 n1 fm H) (hR : lR ff fm) (hS : va_S (fun q : Nat => s.heap.size ≤ q) s.heap H locs) (hl : lv_has ls 4 [(3, .int (kz (6 * (k : Int)))), (2, .ref m0), (1, .ref o), (0, .ref b)]) (hB : bud k pv cells slots) : W p l e room_1 s m #[Value.ref b] below meth c H locs cells slots (lw_Z below #[Value.ref b] s) (F0 m 548 ls []) := by
  obtain ⟨⟨hx, hb, hr, hml, hown, hts0, hSc, hbl, hlocks, hgv⟩, hL, hJ, hKm, hAo, hAm, hk⟩ := id C
  have hb : c.code = cL_law := hb
  have hown : s.vm.findClass RL = some m.cls := hown
  have hts : ∀ w ∈ wsL_law, w.before #[Value.ref b] s = true := fun w h => hts0 w (wsL_law_in w h)
  have hbA : ¬ (fun q : Nat => s.heap.size ≤ q) b := Nat.not_le.mpr hbl
  obtain ⟨hB1, hB2⟩ := hB
  obtain ⟨X, t1, t2, t3, t4, t5, hU, hI, g_o, g1, g2, g3, g4, g5, hpv, hst, hO, ht9, hF, g_z, c_z⟩ := id hX
  refine lv_aload_n hx hb dL_law_548 rfl (lv_at hl 2 rfl) ?_
  refine lv_aload_n hx hb dL_law_549 rfl (lv_at hl 3 rfl) ?_
  refine lv_iload_n hx hb dL_law_550 rfl (lv_at hl 0 rfl) ?_
  refine lv_iconst (v := kz 1) hx hb dL_law_551 rfl ?_
  refine iz_iadd hx hb dL_law_552 ?_
  refine va_sld hx hb hSc hbl hbA hS (kz_in (n := L) (z := 6 * (k : Int) + 1) (by omega) (by omega) (by omega)) dL_law_553 ?_
  refine iz_any (fun z_o1 z_o1a z_o1b _ => ?_)
  refine lv_aload_n hx hb dL_law_554 rfl (lv_at hl 3 rfl) ?_
  refine lv_iload_n hx hb dL_law_555 rfl (lv_at hl 0 rfl) ?_
  refine lv_iconst (v := kz 2) hx hb dL_law_556 rfl ?_
  refine iz_iadd hx hb dL_law_557 ?_
  refine va_sld hx hb hSc hbl hbA hS (kz_in (n := L) (z := 6 * (k : Int) + 2) (by omega) (by omega) (by omega)) dL_law_558 ?_
  refine iz_any (fun z_o2 z_o2a z_o2b _ => ?_)
  refine lv_aload_n hx hb dL_law_559 rfl (lv_at hl 3 rfl) ?_
  refine lv_iload_n hx hb dL_law_560 rfl (lv_at hl 0 rfl) ?_
  refine lv_iconst (v := kz 3) hx hb dL_law_561 rfl ?_
  refine iz_iadd hx hb dL_law_562 ?_
  refine va_sld hx hb hSc hbl hbA hS (kz_in (n := L) (z := 6 * (k : Int) + 3) (by omega) (by omega) (by omega)) dL_law_563 ?_
  refine iz_any (fun z_o3 z_o3a z_o3b _ => ?_)
  refine lv_aload_n hx hb dL_law_564 rfl (lv_at hl 3 rfl) ?_
  refine lv_iload_n hx hb dL_law_565 rfl (lv_at hl 0 rfl) ?_
  refine lv_iconst (v := kz 4) hx hb dL_law_566 rfl ?_
  refine iz_iadd hx hb dL_law_567 ?_
  refine va_sld hx hb hSc hbl hbA hS (kz_in (n := L) (z := 6 * (k : Int) + 4) (by omega) (by omega) (by omega)) dL_law_568 ?_
  refine iz_any (fun z_o4 z_o4a z_o4b _ => ?_)
  refine vp_callSi (va_Run.run (va_runV (As := [.int (kz z_o1), .int (kz z_o2), .int (kz z_o3), .int (kz z_o4)]) (rest := []) ⟨hx, hb, hml, hown, hts⟩ (j_fitting l dC dI ca (lAx s.heap.size m0 n1) X hU o t1 t2 t3 t4 t5 pv st z_o1 z_o2 z_o3 z_o4 g_o hAo g1 g2 g3 g4 g5 hpv hst ⟨z_o1a, z_o1b⟩ ⟨z_o2a, z_o2b⟩ ⟨z_o3a, z_o3b⟩ ⟨z_o4a, z_o4b⟩) (cwV 4 hts gL_law_X11_fitting rfl rfl rfl (by decide +kernel) ⟨Nat.le_of_ble_eq_true rfl, Nat.le_of_ble_eq_true rfl⟩) ⟨fun a U g mk q => by obtain ⟨q0, ⟨qK, qN⟩, qI⟩ := q; exact ⟨q0, ⟨va_K.moved (u := U) (U := U.calling g mk a) (Vm.Alike.refl U.vm) qK, jN_same (U := U.calling g mk a) rfl qN⟩, qI⟩, va_recv hKm (at_P hO) (ci := 11) (q0 := 0) rfl rfl, fun U hU9 hW => ⟨rfl, jK_warm hW hJ, by rw [hU9]; exact ⟨hI, hO⟩⟩⟩ rfl rfl hl.1 rfl (lv_room (Nat.le_of_ble_eq_true rfl)) dL_law_569 ⟨(by show _ + 0 ≤ 600000; omega), (by show _ + 0 ≤ 7302250; omega)⟩)) (fun r9 _ => ?_)
  refine lv_pop hx hb dL_law_572 rfl ?_
  exact law_m8 C kk hX hM hR hS hl ⟨by omega, by omega⟩
