set_option maxHeartbeats 4000000 in
set_option maxRecDepth 100000 in
theorem law_round {p : Program} {l : Launch} {e : Env} {s : State} {m : MethodId} {below : List Frame} {meth : Method} {c : Code} {b L : Nat} {xs : Nat → Int32} {dC : Nat → ClassId} {dI : Nat → Nat → Nat} {ca : Nat → ClassId} {o m0 n1 z9 k : Nat} {ff fm : Nat → Int32} (C : lCx p s m meth c b L xs (dC, dI) ca o m0 n1 k) (kk : lKk p l e s m below meth c b (dC, dI) ca o m0 n1 z9 k) {pv : Option Nat} {st : Int} {H : Heap} {locs : List Loc} {ls : Array Slot} {cells slots : Nat} (hX : lX (dC, dI) ca s.heap.size m0 n1 o z9 ff pv st H) (hM : lM (dC, dI) ca m0 n1 fm H) (hR : lR ff fm) (hS : va_S (fun q : Nat => s.heap.size ≤ q) s.heap H locs) (hl : lv_has ls 4 [(3, .int (kz (6 * (k : Int)))), (2, .ref m0), (1, .ref o), (0, .ref b)]) (hB : bud k pv cells slots) : W p l e room_1 s m #[Value.ref b] below meth c H locs cells slots (lw_Z below #[Value.ref b] s) (F0 m 27 ls []) := by
  obtain ⟨⟨hx, hb, hr, hml, hown, hts0, hSc, hbl, hlocks, hgv⟩, hL, hJ, hKm, hAo, hAm, hk⟩ := id C
  have hb : c.code = cL_law := hb
  have hown : s.vm.findClass RL = some m.cls := hown
  have hts : ∀ w ∈ wsL_law, w.before #[Value.ref b] s = true := fun w h => hts0 w (wsL_law_in w h)
  have hbA : ¬ (fun q : Nat => s.heap.size ≤ q) b := Nat.not_le.mpr hbl
  obtain ⟨hB1, hB2⟩ := hB
  refine lv_aload_n hx hb dL_law_27 rfl (lv_at hl 3 rfl) ?_
  refine lv_iload_n hx hb dL_law_28 rfl (lv_at hl 0 rfl) ?_
  refine va_sld hx hb hSc hbl hbA hS (kz_in (n := L) (z := 6 * (k : Int)) (by omega) (by omega) (by omega)) dL_law_29 ?_
  refine lv_bipush (v := kz 31) hx hb dL_law_30 (by decide) ?_
  refine lv_iand hx hb dL_law_32 ?_
  refine iz_any (fun z za zb _ => ?_)
  rcases (show (z < 0 ∨ 25 < z) ∨ z = 0 ∨ z = 1 ∨ z = 2 ∨ z = 3 ∨ z = 4 ∨ z = 5 ∨ z = 6 ∨ z = 7 ∨ z = 8 ∨ z = 9 ∨ z = 10 ∨ z = 11 ∨ z = 12 ∨ z = 13 ∨ z = 14 ∨ z = 15 ∨ z = 16 ∨ z = 17 ∨ z = 18 ∨ z = 19 ∨ z = 20 ∨ z = 21 ∨ z = 22 ∨ z = 23 ∨ z = 24 ∨ z = 25 by omega) with hsw | rfl | rfl | rfl | rfl | rfl | rfl | rfl | rfl | rfl | rfl | rfl | rfl | rfl | rfl | rfl | rfl | rfl | rfl | rfl | rfl | rfl | rfl | rfl | rfl | rfl | rfl
  · refine lv_tableOut (tgt := 1022) hx hb dL_law_33 (by rw [kz_toInt za zb]; exact hsw) (by decide) ?_
    exact kk ff fm pv st H locs ls cells slots hX hM hR hS hl ⟨by omega, by omega⟩
  · refine lv_tableIn (off := 119) (tgt := 152) hx hb dL_law_33 (by decide) (by decide) rfl (by decide) ?_
    exact law_c0 C kk hX hM hR hS hl ⟨hB1, hB2⟩
  · refine lv_tableIn (off := 182) (tgt := 215) hx hb dL_law_33 (by decide) (by decide) rfl (by decide) ?_
    exact law_c1 C kk hX hM hR hS hl ⟨hB1, hB2⟩
  · refine lv_tableIn (off := 205) (tgt := 238) hx hb dL_law_33 (by decide) (by decide) rfl (by decide) ?_
    exact law_c2 C kk hX hM hR hS hl ⟨hB1, hB2⟩
  · refine lv_tableIn (off := 274) (tgt := 307) hx hb dL_law_33 (by decide) (by decide) rfl (by decide) ?_
    exact law_c3 C kk hX hM hR hS hl ⟨hB1, hB2⟩
  · refine lv_tableIn (off := 337) (tgt := 370) hx hb dL_law_33 (by decide) (by decide) rfl (by decide) ?_
    exact law_c4 C kk hX hM hR hS hl ⟨hB1, hB2⟩
  · refine lv_tableIn (off := 370) (tgt := 403) hx hb dL_law_33 (by decide) (by decide) rfl (by decide) ?_
    exact law_c5 C kk hX hM hR hS hl ⟨hB1, hB2⟩
  · refine lv_tableIn (off := 429) (tgt := 462) hx hb dL_law_33 (by decide) (by decide) rfl (by decide) ?_
    exact law_c6 C kk hX hM hR hS hl ⟨hB1, hB2⟩
  · refine lv_tableIn (off := 472) (tgt := 505) hx hb dL_law_33 (by decide) (by decide) rfl (by decide) ?_
    exact law_c7 C kk hX hM hR hS hl ⟨hB1, hB2⟩
  · refine lv_tableIn (off := 515) (tgt := 548) hx hb dL_law_33 (by decide) (by decide) rfl (by decide) ?_
    exact law_c8 C kk hX hM hR hS hl ⟨hB1, hB2⟩
  · refine lv_tableIn (off := 568) (tgt := 601) hx hb dL_law_33 (by decide) (by decide) rfl (by decide) ?_
    exact law_c9 C kk hX hM hR hS hl ⟨hB1, hB2⟩
  · refine lv_tableIn (off := 591) (tgt := 624) hx hb dL_law_33 (by decide) (by decide) rfl (by decide) ?_
    exact law_c10 C kk hX hM hR hS hl ⟨hB1, hB2⟩
  · refine lv_tableIn (off := 624) (tgt := 657) hx hb dL_law_33 (by decide) (by decide) rfl (by decide) ?_
    exact law_c11 C kk hX hM hR hS hl ⟨hB1, hB2⟩
  · refine lv_tableIn (off := 637) (tgt := 670) hx hb dL_law_33 (by decide) (by decide) rfl (by decide) ?_
    exact law_c12 C kk hX hM hR hS hl ⟨hB1, hB2⟩
  · refine lv_tableIn (off := 660) (tgt := 693) hx hb dL_law_33 (by decide) (by decide) rfl (by decide) ?_
    exact law_c13 C kk hX hM hR hS hl ⟨hB1, hB2⟩
  · refine lv_tableIn (off := 673) (tgt := 706) hx hb dL_law_33 (by decide) (by decide) rfl (by decide) ?_
    exact law_c14 C kk hX hM hR hS hl ⟨hB1, hB2⟩
  · refine lv_tableIn (off := 696) (tgt := 729) hx hb dL_law_33 (by decide) (by decide) rfl (by decide) ?_
    exact law_c15 C kk hX hM hR hS hl ⟨hB1, hB2⟩
  · refine lv_tableIn (off := 719) (tgt := 752) hx hb dL_law_33 (by decide) (by decide) rfl (by decide) ?_
    exact law_c16 C kk hX hM hR hS hl ⟨hB1, hB2⟩
  · refine lv_tableIn (off := 752) (tgt := 785) hx hb dL_law_33 (by decide) (by decide) rfl (by decide) ?_
    exact law_c17 C kk hX hM hR hS hl ⟨hB1, hB2⟩
  · refine lv_tableIn (off := 785) (tgt := 818) hx hb dL_law_33 (by decide) (by decide) rfl (by decide) ?_
    exact law_c18 C kk hX hM hR hS hl ⟨hB1, hB2⟩
  · refine lv_tableIn (off := 818) (tgt := 851) hx hb dL_law_33 (by decide) (by decide) rfl (by decide) ?_
    exact law_c19 C kk hX hM hR hS hl ⟨hB1, hB2⟩
  · refine lv_tableIn (off := 851) (tgt := 884) hx hb dL_law_33 (by decide) (by decide) rfl (by decide) ?_
    exact law_c20 C kk hX hM hR hS hl ⟨hB1, hB2⟩
  · refine lv_tableIn (off := 874) (tgt := 907) hx hb dL_law_33 (by decide) (by decide) rfl (by decide) ?_
    exact law_c21 C kk hX hM hR hS hl ⟨hB1, hB2⟩
  · refine lv_tableIn (off := 887) (tgt := 920) hx hb dL_law_33 (by decide) (by decide) rfl (by decide) ?_
    exact law_c22 C kk hX hM hR hS hl ⟨hB1, hB2⟩
  · refine lv_tableIn (off := 910) (tgt := 943) hx hb dL_law_33 (by decide) (by decide) rfl (by decide) ?_
    exact law_c23 C kk hX hM hR hS hl ⟨hB1, hB2⟩
  · refine lv_tableIn (off := 933) (tgt := 966) hx hb dL_law_33 (by decide) (by decide) rfl (by decide) ?_
    exact law_c24 C kk hX hM hR hS hl ⟨hB1, hB2⟩
  · refine lv_tableIn (off := 966) (tgt := 999) hx hb dL_law_33 (by decide) (by decide) rfl (by decide) ?_
    exact law_c25 C kk hX hM hR hS hl ⟨hB1, hB2⟩
theorem kz_nat (L : Nat) : Int32.ofNat L = kz (L : Int) := Int32.ofInt_eq_ofNat.symm
set_option maxHeartbeats 4000000 in
set_option maxRecDepth 100000 in
theorem law_loop {p : Program} {l : Launch} {e : Env} {s : State} {m : MethodId} {below : List Frame} {meth : Method} {c : Code} {b L : Nat} {xs : Nat → Int32} {dC : Nat → ClassId} {dI : Nat → Nat → Nat} {ca : Nat → ClassId} {o m0 n1 z9 : Nat} (C0 : lw_At p s m meth c b L xs) (hL : L ≤ 3072) (hJ : jK (dC, dI) ca s) (hKm : va_K (dC, dI) vwCl (k_tys ca) s) (hAo : lAx s.heap.size m0 n1 o) (hAm : ∀ q : Nat, lAm m0 n1 q → s.heap.size ≤ q) : ∀ (n k : Nat) (ff fm : Nat → Int32) (pv : Option Nat) (st : Int) (H : Heap) (locs : List Loc) (ls : Array Slot) (cells slots : Nat), 512 ≤ k + n → k ≤ 512 → lX (dC, dI) ca s.heap.size m0 n1 o z9 ff pv st H → lM (dC, dI) ca m0 n1 fm H → lR ff fm → va_S (fun q : Nat => s.heap.size ≤ q) s.heap H locs → lv_has ls 4 [(3, .int (kz (6 * (k : Int)))), (2, .ref m0), (1, .ref o), (0, .ref b)] → bud k pv cells slots → W p l e room_1 s m #[Value.ref b] below meth c H locs cells slots (lw_Z below #[Value.ref b] s) (F0 m 18 ls []) := by
  obtain ⟨hx, hb, hr, hml, hown, hts0, hSc, hbl, hlocks, hgv⟩ := id C0
  have hb : c.code = cL_law := hb
  have hbA : ¬ (fun q : Nat => s.heap.size ≤ q) b := Nat.not_le.mpr hbl
  intro n
  induction n with
  | zero =>
    intro k ff fm pv st H locs ls cells slots hn hk hX hM hR hS hl hB
    obtain ⟨hB1, hB2⟩ := hB
    refine lv_iload_n hx hb dL_law_18 rfl (lv_at hl 0 rfl) ?_
    refine lv_aload_n hx hb dL_law_19 rfl (lv_at hl 3 rfl) ?_
    refine va_slen hx hb hSc hbl hbA hS dL_law_20 ?_
    rw [kz_nat]
    refine lv_bipush (v := kz 6) hx hb dL_law_21 (by decide) ?_
    refine iz_isub hx hb dL_law_23 ?_
    refine iz_gt (tgt := 1028) hx hb dL_law_24 (by decide) (by unfold rg2; omega) (fun _ => ?_) (fun h9 => absurd h9 (by omega))
    refine lv_iconst (v := 1) hx hb dL_law_1028 (by decide) ?_
    refine va_forget (fun q hq => hS.2.2 q hq) ?_
    refine W.widen (k := 600000) (n := 7302250) (by omega) (by omega) ?_
    exact lw_ret hx hb hr hlocks dL_law_1029
  | succ n ih =>
    intro k ff fm pv st H locs ls cells slots hn hk hX hM hR hS hl hB
    obtain ⟨hB1, hB2⟩ := id hB
    refine lv_iload_n hx hb dL_law_18 rfl (lv_at hl 0 rfl) ?_
    refine lv_aload_n hx hb dL_law_19 rfl (lv_at hl 3 rfl) ?_
    refine va_slen hx hb hSc hbl hbA hS dL_law_20 ?_
    rw [kz_nat]
    refine lv_bipush (v := kz 6) hx hb dL_law_21 (by decide) ?_
    refine iz_isub hx hb dL_law_23 ?_
    refine iz_gt (tgt := 1028) hx hb dL_law_24 (by decide) (by unfold rg2; omega) (fun _ => ?_) (fun h9 => ?_)
    · refine lv_iconst (v := 1) hx hb dL_law_1028 (by decide) ?_
      refine va_forget (fun q hq => hS.2.2 q hq) ?_
      refine W.widen (k := 600000) (n := 7302250) (by omega) (by omega) ?_
      exact lw_ret hx hb hr hlocks dL_law_1029
    · refine law_round (k := k) ⟨C0, hL, hJ, hKm, hAo, hAm, by omega⟩ ?_ hX hM hR hS hl hB
      intro ff fm pv st H locs ls cells slots hX hM hR hS hl hB
      refine lv_iinc (v := kz (6 * ((k + 1 : Nat) : Int))) (lv' := [(3, .int (kz (6 * ((k + 1 : Nat) : Int)))), (2, .ref m0), (1, .ref o), (0, .ref b)]) hx hb dL_law_1022 hl (k := 0) rfl ((kz_add (6 * (k : Int)) 6).trans (congrArg kz (by omega))) (by decide) rfl (fun ls hl => ?_)
      refine lv_goto (tgt := 18) hx hb dL_law_1025 (by decide) ?_
      exact ih (k + 1) ff fm pv st H locs ls cells slots (by omega) (by omega) hX hM hR hS hl hB
