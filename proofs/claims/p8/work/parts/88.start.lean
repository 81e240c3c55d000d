def jX0 (o : Nat) : jG := (fun q => if q = o then (999, 0, 0, 0, 0) else (0, 0, 0, 0, 0), fun _ => 0, fun _ => 0, 0)
theorem jX0_0 (o q : Nat) : ((jX0 o).1 q).2.1 = 0 := by
  show (if q = o then ((999, 0, 0, 0, 0) : kTy) else (0, 0, 0, 0, 0)).2.1 = 0
  by_cases h : q = o
  · rw [if_pos h]
  · rw [if_neg h]
theorem jX0_o (o : Nat) : (jX0 o).1 o = (999, 0, 0, 0, 0) := if_pos rfl
theorem jX0_no (o : Nat) {t : kTy} (ht : t.2.1 ≠ 0) : ∀ q : Nat, (jX0 o).1 q ≠ t := fun q e => ht (by rw [← e]; exact jX0_0 o q)
theorem jX0_U (o : Nat) : jU (jX0 o) := fun a _ _ h _ => absurd (jX0_0 o a) h
theorem jX0_v {D : va_G} {ca : Nat → ClassId} {A : Nat → Prop} {H : Heap} (o : Nat) : jv D ca A (jX0 o) H := fun a h => absurd (jX0_0 o a) h
theorem jX0_f (o : Nat) (S : List Int) : fidL (jX0 o) S := fun a h => absurd (jX0_0 o a) h
theorem Ljb_9 : ∀ t ∈ Ljb, (t.1 ≠ 9 ∨ t = (9, 30, 0, 0, 0)) := by decide +kernel
theorem Ljb_f : ∀ t ∈ Ljb, fid t ∉ ([0, 1, 2, 3, 4, 5, 6, 7, 8, 9, 10, 11, 12, 13, 14, 15] : List Int) := by decide +kernel
theorem jnw_F {u : jG} {o n0 : Nat} (h : jnw0 (jX0 o) u o n0 Ljb) : lF u :=
  ⟨nw_no h (jX0_no o (by decide)) (by decide +kernel), nw_no h (jX0_no o (by decide)) (by decide +kernel), nw_no h (jX0_no o (by decide)) (by decide +kernel), nw_no h (jX0_no o (by decide)) (by decide +kernel), nw_no h (jX0_no o (by decide)) (by decide +kernel), nw_no h (jX0_no o (by decide)) (by decide +kernel), nw_no h (jX0_no o (by decide)) (by decide +kernel), nw_no h (jX0_no o (by decide)) (by decide +kernel), nw_no h (jX0_no o (by decide)) (by decide +kernel), nw_no h (jX0_no o (by decide)) (by decide +kernel), nw_no h (jX0_no o (by decide)) (by decide +kernel), nw_no h (jX0_no o (by decide)) (by decide +kernel), nw_no h (jX0_no o (by decide)) (by decide +kernel), fidL_nw h (jX0_f o _) (fun _ h9 => h9) Ljb_f⟩
theorem jnw_in {u : jG} {o n0 q : Nat} (h : jnw0 (jX0 o) u o n0 Ljb) (hq : (u.1 q).2.1 ≠ 0) : (q = o ∨ n0 ≤ q) ∧ u.1 q ∈ Ljb := by
  rcases h.2 q with e | e
  · exact absurd (by rw [e.1]; exact jX0_0 o q) hq
  · exact ⟨e.1, e.2.2⟩
theorem mX_rng {n0 a : Nat} (h : ((mX n0).1 a).2.1 ≠ 0) : n0 ≤ a ∧ a < n0 + 34 := by
  by_cases e : a < n0
  · exact absurd (by rw [mX_lt e]) h
  · refine ⟨by omega, ?_⟩
    rcases Nat.lt_or_ge a (n0 + 34) with h9 | h9
    · exact h9
    · refine absurd ?_ h
      rw [mX_ge e, List.getD_eq_getElem?_getD, List.getElem?_eq_none (show kL.length ≤ a - n0 by show 34 ≤ a - n0; omega)]
      rfl
set_option maxHeartbeats 8000000 in
set_option maxRecDepth 100000 in
/-- what the tables say of the classes and the arrays -/
theorem law_tables {s : State} {b : Nat} (hts0 : ∀ w ∈ lw_tbl, w.before #[Value.ref b] s = true) : ∃ (dC : Nat → ClassId) (dI : Nat → Nat → Nat) (ca : Nat → ClassId), jK (dC, dI) ca s := by
  obtain ⟨cX0, iX0, hKnX0⟩ := u_known (C := RX0) (T := TX0) (N := 3) (n := 3) hts0 inX0 (hts0 (.instantiable RX0 3) (by decide +kernel))
  obtain ⟨cX1, iX1, hKnX1⟩ := u_known (C := RX1) (T := TX1) (N := 6) (n := 6) hts0 inX1 (hts0 (.instantiable RX1 6) (by decide +kernel))
  obtain ⟨cX2, iX2, hKnX2⟩ := u_known (C := RX2) (T := TX2) (N := 8) (n := 8) hts0 inX2 (hts0 (.instantiable RX2 8) (by decide +kernel))
  obtain ⟨cX3, iX3, hKnX3⟩ := u_known (C := RX3) (T := TX3) (N := 11) (n := 11) hts0 inX3 (hts0 (.instantiable RX3 11) (by decide +kernel))
  obtain ⟨cX4, iX4, hKnX4⟩ := u_known (C := RX4) (T := TX4) (N := 10) (n := 10) hts0 inX4 (hts0 (.instantiable RX4 10) (by decide +kernel))
  obtain ⟨cX5, iX5, hKnX5⟩ := u_known (C := RX5) (T := TX5) (N := 6) (n := 6) hts0 inX5 (hts0 (.instantiable RX5 6) (by decide +kernel))
  obtain ⟨cX6, iX6, hKnX6⟩ := u_known (C := RX6) (T := TX6) (N := 4) (n := 4) hts0 inX6 (hts0 (.instantiable RX6 4) (by decide +kernel))
  obtain ⟨cX7, iX7, hKnX7⟩ := u_known (C := RX7) (T := TX7) (N := 9) (n := 9) hts0 inX7 (hts0 (.instantiable RX7 9) (by decide +kernel))
  obtain ⟨cX8, iX8, hKnX8⟩ := u_known (C := RX8) (T := TX8) (N := 2) (n := 2) hts0 inX8 (hts0 (.instantiable RX8 2) (by decide +kernel))
  obtain ⟨cX9, iX9, hKnX9⟩ := u_known (C := RX9) (T := TX9) (N := 5) (n := 5) hts0 inX9 (hts0 (.instantiable RX9 5) (by decide +kernel))
  obtain ⟨cX10, iX10, hKnX10⟩ := u_known (C := RX10) (T := TX10) (N := 2) (n := 2) hts0 inX10 (hts0 (.instantiable RX10 2) (by decide +kernel))
  obtain ⟨cX11, iX11, hKnX11⟩ := u_known (C := RX11) (T := TX11) (N := 7) (n := 7) hts0 inX11 (hts0 (.instantiable RX11 7) (by decide +kernel))
  obtain ⟨cX12, iX12, hKnX12⟩ := u_known (C := RX12) (T := TX12) (N := 49) (n := 49) hts0 inX12 (hts0 (.instantiable RX12 49) (by decide +kernel))
  obtain ⟨dC, dI, hKc⟩ : ∃ (dC : Nat → ClassId) (dI : Nat → Nat → Nat), ∀ (k : Nat) (q : vw_C), vwCl[k]? = some q → u_Kn s q.1 q.2.1 q.2.2 (dC k) (dI k) := by
    refine ⟨fun k => [cX0, cX1, cX2, cX3, cX4, cX5, cX6, cX7, cX8, cX9, cX10, cX11, cX12].getD k cX0, fun k => [iX0, iX1, iX2, iX3, iX4, iX5, iX6, iX7, iX8, iX9, iX10, iX11, iX12].getD k iX0, ?_⟩
    intro k q hq
    match k, hq with
    | 0, hq => cases hq; exact hKnX0
    | 1, hq => cases hq; exact hKnX1
    | 2, hq => cases hq; exact hKnX2
    | 3, hq => cases hq; exact hKnX3
    | 4, hq => cases hq; exact hKnX4
    | 5, hq => cases hq; exact hKnX5
    | 6, hq => cases hq; exact hKnX6
    | 7, hq => cases hq; exact hKnX7
    | 8, hq => cases hq; exact hKnX8
    | 9, hq => cases hq; exact hKnX9
    | 10, hq => cases hq; exact hKnX10
    | 11, hq => cases hq; exact hKnX11
    | 12, hq => cases hq; exact hKnX12
    | k + 13, hq => exact absurd hq (by simp [vwCl])
  obtain ⟨c20, a20, f20⟩ := aT_class (hts0 (.arrayClass .int) (by decide +kernel))
  obtain ⟨c21, a21, f21⟩ := aT_class (hts0 (.arrayClass .byte) (by decide +kernel))
  obtain ⟨c22, a22, f22⟩ := aT_class (hts0 (.arrayClass .boolean) (by decide +kernel))
  obtain ⟨c23, a23, f23⟩ := aT_class (hts0 (.arrayClass .long) (by decide +kernel))
  obtain ⟨c24, a24, f24⟩ := aT_obj (hts0 (.arrayOver (.object RX2)) (by decide +kernel))
  obtain ⟨c25, a25, f25⟩ := aT_obj (hts0 (.arrayOver (.object RX7)) (by decide +kernel))
  obtain ⟨c26, a26, f26⟩ := aT_obj (hts0 (.arrayOver (.object RX5)) (by decide +kernel))
  obtain ⟨c27, a27, f27⟩ := aT_arr (hts0 (.arrayOver (.array .int)) (by decide +kernel))
  obtain ⟨c28, a28, f28⟩ := aT_arr (hts0 (.arrayOver (.array .long)) (by decide +kernel))
  refine ⟨dC, dI, fun k => [c20, c21, c22, c23, c24, c25, c26, c27, c28].getD (k - 20) c20, ⟨hKc, fun k q hq => ?_⟩, ?_⟩
  · match k, hq with
    | 0, hq => cases hq; exact ⟨a20, f20⟩
    | 1, hq => cases hq; exact ⟨a21, f21⟩
    | 2, hq => cases hq; exact ⟨a22, f22⟩
    | 3, hq => cases hq; exact ⟨a23, f23⟩
    | 4, hq => cases hq; exact ⟨a24, f24⟩
    | 5, hq => cases hq; exact ⟨a25, f25⟩
    | 6, hq => cases hq; exact ⟨a26, f26⟩
    | 7, hq => cases hq; exact ⟨a27, f27⟩
    | 8, hq => cases hq; exact ⟨a28, f28⟩
    | k + 9, hq => exact absurd hq (by simp [j_tys])
  · exact ⟨va_Nw.of rfl (hts0 (.methodLinkNest RX3 92 yX11_capped "JoinBench") (by decide +kernel)), va_Nw.of rfl (hts0 (.methodLinkNest RX3 125 yX11_hasRule "JoinBench") (by decide +kernel)), va_Nw.of rfl (hts0 (.methodLinkNest RX4 55 yX5_init "JoinBench") (by decide +kernel)), va_Nw.of rfl (hts0 (.methodLinkNest RX4 174 yX11_hasRule "JoinBench") (by decide +kernel)), va_Nw.of rfl (hts0 (.methodLinkNest RX5 9 yX0_init "JoinBench") (by decide +kernel)), va_Nw.of rfl (hts0 (.methodLinkNest RX6 11 yX0_init "JoinBench") (by decide +kernel)), va_Nw.of rfl (hts0 (.methodLinkNest RX10 56 yX11_capped "JoinBench") (by decide +kernel)), va_Nw.of rfl (hts0 (.methodLinkNest RX11 11 yX8_init "JoinBench") (by decide +kernel)), va_Nw.of rfl (hts0 (.methodLinkNest RX11 18 yX9_init "JoinBench") (by decide +kernel)), va_Nw.of rfl (hts0 (.methodLinkNest RX11 25 yX6_init "JoinBench") (by decide +kernel)), va_Nw.of rfl (hts0 (.methodLinkNest RX11 39 yX1_init "JoinBench") (by decide +kernel)), va_AO.of (hts0 (.arrayOver (.object RX2)) (by decide +kernel)), va_AO.of (hts0 (.arrayOver (.object RX7)) (by decide +kernel)), va_AO.of (hts0 (.arrayOver (.object RX5)) (by decide +kernel)), mn_AO_of (hts0 (.arrayOver (.array .int)) (by decide +kernel)), mn_AO_of (hts0 (.arrayOver (.array .long)) (by decide +kernel))⟩
set_option maxHeartbeats 8000000 in
set_option maxRecDepth 100000 in
/-- THE LAW, from its entry -/
theorem whole_start {p : Program} {e : Env} {s : State} {m : MethodId} {below : List Frame} {meth : Method} {c : Code} (l : Launch) {b L : Nat} {xs : Nat → Int32} (hL : L ≤ 3072) (C0 : lw_At p s m meth c b L xs) : W p l e room_1 s m #[Value.ref b] below meth c s.heap [] 0 0 (lw_Z below #[Value.ref b] s) (entryFrame m ([Value.ref b] : List Value).toArray 4) := by
  obtain ⟨hx, hb, hr, hml, hown, hts0, hSc, hbl, hlocks, hgv⟩ := id C0
  have hb : c.code = cL_law := hb
  have hown : s.vm.findClass RL = some m.cls := hown
  have hts : ∀ w ∈ wsL_law, w.before #[Value.ref b] s = true := fun w h => hts0 w (wsL_law_in w h)
  obtain ⟨dC, dI, ca, hJ⟩ := law_tables hts0
  have hKm : va_K (dC, dI) vwCl (k_tys ca) s := hJ.1.sub (tys' := k_tys ca) [0, 1, 2, 3] rfl
  obtain ⟨H, hH⟩ : ∃ H : Heap, H = s.heap := ⟨_, rfl⟩
  have hS : va_S (fun q : Nat => s.heap.size ≤ q) s.heap H [] := by rw [hH]; exact va_S.rf
  rw [← hH]
  clear hH
  have hl := lv_entry ([.ref b]) (n := 4) (Nat.le_of_ble_eq_true rfl)
  rw [lg_entry_eq]
  generalize (lg_sl ([.ref b]) ++ List.replicate (4 - (lg_sl ([.ref b])).length) Slot.unset).toArray = ls at hl ⊢
  have hl : lv_has ls 4 [(0, .ref b)] := hl
  have z0 : s.heap.size ≤ H.size := hS.1
  refine jz_new (ci := 11) (fs := [.null, .null, .null, .null, .null, .null, .int (kz 0)]) (C := RX11) (T := TX11) (N := 7) hx hb hts0 inX11 tyX11 tyX11_ok hown (hts (.classLink RL 7 RX11) (by decide +kernel)) (hts (.instantiable RX11 7) (by decide +kernel)) (hts (.initialized RX11) (by decide +kernel)) hKm hS rfl (fun j hj => by rcases (show j = 0 ∨ j = 1 ∨ j = 2 ∨ j = 3 ∨ j = 4 ∨ j = 5 ∨ j = 6 by omega) with rfl | rfl | rfl | rfl | rfl | rfl | rfl <;> rfl) (Nat.le_of_ble_eq_true rfl) (Nat.le_of_ble_eq_true rfl) dL_law_0 (fun o H hx9 c_o oq hz9 hS => ?_)
  clear oq
  have ho : s.heap.size ≤ o := by omega
  have hoH : o < H.size := c_o.lt
  refine lv_dup hx hb dL_law_3 rfl ?_
  refine va_callv (va_runI (As := []) (rest := [.ref o]) ⟨hx, hb, hml, hown, hts⟩ (k_JoinBenchZ l dC dI ca (jX0 o) (jX0_U o) o H.size (jX0_0 o o) rfl (jX0_o o) (jX0_no o (by decide)) (jX0_no o (by decide)) (jX0_no o (by decide)) (jX0_no o (by decide)) (jX0_no o (by decide)) (jX0_no o (by decide)) (jX0_no o (by decide)) (jX0_no o (by decide)) (jX0_no o (by decide)) (jX0_no o (by decide)) (jX0_no o (by decide)) (jX0_no o (by decide)) (jX0_no o (by decide)) (jX0_no o (by decide)) (jX0_no o (by decide)) (jX0_no o (by decide)) (jX0_no o (by decide)) (jX0_no o (by decide))) (cwI 0 hts gL_law_X11_init rfl rfl rfl (hts (.initialized RX11) (by decide +kernel)) (hts (.methodLink RL 9 yX11_init) (by decide +kernel)) (hts (.instanceMethod yX11_init) (by decide +kernel)) rfl (by decide +kernel) ⟨Nat.le_of_ble_eq_true rfl, Nat.le_of_ble_eq_true rfl⟩) ⟨fun a U g mk q => by obtain ⟨q0, q1, ⟨qK, qN⟩, qI⟩ := q; exact ⟨q0, q1, ⟨va_K.moved (u := U) (U := U.calling g mk a) (Vm.Alike.refl U.vm) qK, jN_same (U := U.calling g mk a) rfl qN⟩, qI⟩, fun U hU9 hW => ⟨rfl, by rw [hU9], jK_warm hW hJ, by rw [hU9]; exact ⟨jX0_v o, c_o⟩⟩⟩ rfl rfl hl.1 rfl (lv_room (Nat.le_of_ble_eq_true rfl)) dL_law_4 ⟨(Nat.le_of_ble_eq_true rfl), (Nat.le_of_ble_eq_true rfl)⟩) hS (fun q h8 h9 => h9.elim (fun e9 => show s.heap.size ≤ q by omega) (fun e9 => show s.heap.size ≤ q by omega)) (fun q h9 => h9.elim (fun e9 => show s.heap.size ≤ q by omega) (fun e9 => show s.heap.size ≤ q by omega)) (fun u t9 H1 locs1 ht hvm hw hQ hz1 hk1 hS => ?_)
  obtain ⟨hJ0, hU, g_o⟩ := hw
  obtain ⟨-, hI1, t1, t2, t3, t4, t5, g1, g2, g3, g4, g5, hO1, ⟨zt, g_zt, c_zt⟩, zk, fk, g_zk, hfk, c_zk⟩ := hQ
  rw [ht] at hI1 hO1 c_zt c_zk
  clear ht hvm hk1
  refine lv_astore_n (lv' := [(1, .ref o), (0, .ref b)]) hx hb dL_law_7 rfl hl (by decide) rfl (fun ls hl => ?_)
  refine jz_new (ci := 12) (fs := [.null, .int (kz 0), .int (kz 0), .null, .null, .null, .null, .null, .null, .int (kz 0), .null, .null, .null, .null, .null, .null, .null, .null, .null, .null, .int (kz 0), .int (kz 0), .int (kz 0), .null, .null, .null, .int (kz 0), .null, .int (kz 0), .null, .null, .null, .null, .null, .int (kz 0), .int (kz 0), .long 0, .long 0, .int (kz 0), .int (kz 0), .null, .null, .null, .null, .null, .null, .int (kz 0), .null, .null]) (C := RX12) (T := TX12) (N := 49) hx hb hts0 inX12 tyX12 tyX12_ok hown (hts (.classLink RL 10 RX12) (by decide +kernel)) (hts (.instantiable RX12 49) (by decide +kernel)) (hts (.initialized RX12) (by decide +kernel)) hKm hS rfl (fun j hj => by rcases (show j = 0 ∨ j = 1 ∨ j = 2 ∨ j = 3 ∨ j = 4 ∨ j = 5 ∨ j = 6 ∨ j = 7 ∨ j = 8 ∨ j = 9 ∨ j = 10 ∨ j = 11 ∨ j = 12 ∨ j = 13 ∨ j = 14 ∨ j = 15 ∨ j = 16 ∨ j = 17 ∨ j = 18 ∨ j = 19 ∨ j = 20 ∨ j = 21 ∨ j = 22 ∨ j = 23 ∨ j = 24 ∨ j = 25 ∨ j = 26 ∨ j = 27 ∨ j = 28 ∨ j = 29 ∨ j = 30 ∨ j = 31 ∨ j = 32 ∨ j = 33 ∨ j = 34 ∨ j = 35 ∨ j = 36 ∨ j = 37 ∨ j = 38 ∨ j = 39 ∨ j = 40 ∨ j = 41 ∨ j = 42 ∨ j = 43 ∨ j = 44 ∨ j = 45 ∨ j = 46 ∨ j = 47 ∨ j = 48 by omega) with rfl | rfl | rfl | rfl | rfl | rfl | rfl | rfl | rfl | rfl | rfl | rfl | rfl | rfl | rfl | rfl | rfl | rfl | rfl | rfl | rfl | rfl | rfl | rfl | rfl | rfl | rfl | rfl | rfl | rfl | rfl | rfl | rfl | rfl | rfl | rfl | rfl | rfl | rfl | rfl | rfl | rfl | rfl | rfl | rfl | rfl | rfl | rfl | rfl <;> rfl) (Nat.le_of_ble_eq_true rfl) (Nat.le_of_ble_eq_true rfl) dL_law_8 (fun m0 H2 hm9 c_m oq2 hz2 hS => ?_)
  refine lv_dup hx hb dL_law_11 rfl ?_
  refine va_callv (va_runI (As := []) (rest := [.ref m0]) ⟨hx, hb, hml, hown, hts⟩ (m_ModelZ l dC dI ca m0 H2.size c_m.lt) (cwI 0 hts gL_law_X12_init rfl rfl rfl (hts (.initialized RX12) (by decide +kernel)) (hts (.methodLink RL 12 yX12_init) (by decide +kernel)) (hts (.instanceMethod yX12_init) (by decide +kernel)) rfl (by decide +kernel) ⟨Nat.le_of_ble_eq_true rfl, Nat.le_of_ble_eq_true rfl⟩) ⟨fun a U g mk q => by obtain ⟨q0, q1, qK, qI⟩ := q; exact ⟨q0, q1, va_K.moved (u := U) (U := U.calling g mk a) (Vm.Alike.refl U.vm) qK, qI⟩, fun U hU9 hW => ⟨rfl, by rw [hU9], va_K.moved hW.alike hKm, by rw [hU9]; exact c_m⟩⟩ rfl rfl hl.1 rfl (lv_room (Nat.le_of_ble_eq_true rfl)) dL_law_12 ⟨(Nat.le_of_ble_eq_true rfl), (Nat.le_of_ble_eq_true rfl)⟩) hS (fun q h8 h9 => h9.elim (fun e9 => show s.heap.size ≤ q by omega) (fun e9 => show s.heap.size ≤ q by omega)) (fun q h9 => h9.elim (fun e9 => show s.heap.size ≤ q by omega) (fun e9 => show s.heap.size ≤ q by omega)) (fun u9 t9 H3 locs3 ht hvm hw3 hQ3 hz3 hk3 hS => ?_)
  obtain ⟨-, ⟨hI3, hO3⟩, c17, fk2, hfk2, c18⟩ := hQ3
  rw [ht] at hI3 hO3 c17 c18
  clear ht hvm hw3
  have hlt1 : o < H1.size := by omega
  have hkeep : ∀ q : Nat, q < H1.size → H3[q]? = H1[q]? := fun q hq => (hk3 q (by omega) (fun h9 => h9.elim (fun e9 => by omega) (fun e9 => by omega))).trans (oq2 q hq)
  have hAx : ∀ q : Nat, s.heap.size ≤ q → q < H1.size → lAx s.heap.size m0 H2.size q := fun q h1 h2 => ⟨h1, fun h9 => by rcases h9 with h9 | h9 <;> omega⟩
  have hM : lM (dC, dI) ca m0 H2.size fk2 H3 := ⟨mX H2.size, mzi, mzl, mX_S c_m.lt (Or.inl rfl), mX_Z _, ⟨fun q hq => ⟨Or.inr (mX_rng hq), (hI3 q hq).2⟩, hO3⟩, c18⟩
  have hX : lX (dC, dI) ca s.heap.size m0 H2.size o zk fk none 1 H3 := by
    refine ⟨u, t1, t2, t3, t4, t5, hU, fun q hq => ?_, g_o, g1, g2, g3, g4, g5, fun b9 e9 => (by cases e9), by omega, hO1.kept (hkeep _ hO1.lt), fun q hq e9 => ?_, fun _ => jnw_F hJ0, g_zk, c_zk.kept (hkeep _ c_zk.lt)⟩
    · obtain ⟨-, x, h2, h3⟩ := hI1 q hq
      exact ⟨hAx q (by rcases (jnw_in hJ0 hq).1 with h9 | h9 <;> omega) h2.lt, x, h2.kept (hkeep q h2.lt), h3⟩
    · rcases Ljb_9 _ (jnw_in hJ0 hq).2 with h9 | h9
      · exact absurd e9 h9
      · exact hU q t2 (h9.trans g2.symm) hq (by rw [e9]; rfl)
  refine lv_astore_n (lv' := [(2, .ref m0), (1, .ref o), (0, .ref b)]) hx hb dL_law_15 rfl hl (by decide) rfl (fun ls hl => ?_)
  refine lv_iconst (v := kz 0) hx hb dL_law_16 rfl ?_
  refine lv_istore_n (lv' := [(3, .int (kz 0)), (2, .ref m0), (1, .ref o), (0, .ref b)]) hx hb dL_law_17 rfl hl (by decide) rfl (fun ls hl => ?_)
  have hl : lv_has ls 4 [(3, .int (kz (6 * ((0 : Nat) : Int)))), (2, .ref m0), (1, .ref o), (0, .ref b)] := hl
  exact law_loop C0 hL hJ hKm (hAx o ho hlt1) (fun q h9 => by rcases h9 with h9 | h9 <;> omega) 512 0 fk fk2 none 1 H3 locs3 ls _ _ (by omega) (by omega) hX hM (fun z hz => ge_fe (n := 36) (fun j hj => (hfk j hj).trans (hfk2 j hj).symm) z hz) hS hl ⟨Nat.le_of_ble_eq_true rfl, Nat.le_of_ble_eq_true rfl⟩
