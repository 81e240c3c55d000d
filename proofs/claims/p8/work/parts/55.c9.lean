set_option maxHeartbeats 4000000 in
set_option maxRecDepth 100000 in
/-- X0_init -/
theorem k_Chain (l : Launch) (dC : Nat → ClassId) (dI : Nat → Nat → Nat) (ca : Nat → ClassId) (X : jG) (hU : jU X) (a0 n0 : Nat) (id : Nat) (h0_a0 : (X.1 a0).2.1 = 0) (hno_a : ∀ q : Nat, X.1 q ≠ (0, 30, id, 0, 0)) (hno_b : ∀ q : Nat, X.1 q ≠ (210, 24, 40, 2, (id : Int))) (hno_c : ∀ q : Nat, X.1 q ≠ (211, 25, 40, 7, (id : Int))) : Met l yX0_init wsX0_init ({ frames := 1, cells := 2, slots := 80, locals := 12 }) (va_Pc [.ref a0] (fun U => U.heap.size = n0 ∧ jK (dC, dI) ca U ∧ jv (dC, dI) ca (fun _ => True) X U.heap ∧ va_at (dC, dI) vwCl (a0, .inr (0, [.null, .null, .int (kz 0)])) U.heap)) (va_Qv (fun (u : jG) => jnw X u a0 n0 (0, 30, id, 0, 0) (Lc id)) (fun u U => jK (dC, dI) ca U ∧ jv (dC, dI) ca (fun _ => True) u U.heap) (jA a0 n0)) 2 80 (jA a0 n0) := by
  refine Met.ofW (cc := cX0_init) (maxL := 1) (ret := none) (by decide) rfl ?_
  intro p e s m args below meth c s₁ B hml hv
  obtain ⟨rfl, hsz, ⟨hK, hN⟩, hI, c_a0⟩ := hv
  have hx := B.exec
  have hb := B.bytes
  have hr := B.returns
  have hts := atoms_spec (ws := wsX0_init) B.pre
  have hown : s.vm.findClass RX0 = some m.cls := findClass_of_methodNamed B.named
  have hin : meth.name = "<init>" := (name_of_methodNamed B.named B.method).1
  have hL11 := hts (.fieldLink RX0 11 "JoinBench$Chain" "forms" "[LJoinBench$Form;") (by decide +kernel)
  have hL19 := hts (.fieldLink RX0 19 "JoinBench$Chain" "rules" "[LJoinBench$Rule;") (by decide +kernel)
  have hL23 := hts (.fieldLink RX0 23 "JoinBench$Chain" "size" "I") (by decide +kernel)
  have hinX0 : ∀ w ∈ u_ws RX0 TX0 3, w ∈ wsX0_init := by decide +kernel
  have hJ := nw_rf X a0 n0 (Lc id)
  generalize hAe : jA a0 n0 = A
  have hA : ∀ q : Nat, n0 ≤ q → A q := fun q h => by rw [← hAe]; exact Or.inr h
  have hA0 : A a0 := by rw [← hAe]; exact Or.inl rfl
  obtain ⟨H, hH⟩ : ∃ H : Heap, H = s.heap := ⟨_, rfl⟩
  have hS : va_S A s.heap H [] := by rw [hH]; exact va_S.rf
  have hzH : n0 ≤ H.size := by have h8 := hS.1; omega
  rw [← hH] at hI c_a0 ⊢
  clear hH
  have hl := lv_entry ([.ref a0]) (n := 1) (Nat.le_of_ble_eq_true rfl)
  rw [lg_entry_eq]
  generalize (lg_sl ([.ref a0]) ++ List.replicate (1 - (lg_sl ([.ref a0])).length) Slot.unset).toArray = ls at hl ⊢
  have hl : lv_has ls 1 [(0, .ref a0)] := hl
  refine lv_aload_n hx hb dX0_init_0 rfl (lv_at hl 0 rfl) ?_
  refine W.objInit hx hb hown (hts (.methodLink RX0 3 objectInit) (by decide +kernel)) (hts (.instanceMethod objectInit) (by decide +kernel)) (hts _ (List.mem_of_getElem? (i := 3) rfl)) rfl (by rw [hml]; exact hl.1) rfl dX0_init_1 (Nat.le_of_ble_eq_true rfl) (Nat.le_of_ble_eq_true rfl) ?_
  refine lv_aload_n hx hb dX0_init_4 rfl (lv_at hl 0 rfl) ?_
  refine lv_bipush (v := kz 40) hx hb dX0_init_5 (by decide) ?_
  have hzH : n0 ≤ H.size := by have h8 := hS.1; omega
  refine jz_newq (own := RX0) (C := RX2) (kd := 24) (N := 40) hx hb hown (hts (.classLink RX0 9 RX2) (by decide +kernel)) (jN_AO hN).1 hK 4 rfl hS (by decide) (by decide) (Nat.le_of_ble_eq_true rfl) (Nat.le_of_ble_eq_true rfl) dX0_init_7 (fun x_1 H hx9 c_x_1 oq hz9 hS => ?_)
  have h0_x_1 : (X.1 x_1).2.1 = 0 := jv_out hI (by omega)
  have hge_x_1 : n0 ≤ x_1 := by omega
  have hne_x_1_a0 : x_1 ≠ a0 := by have h9 := c_a0.lt; omega
  have c_a0 := c_a0.kept (oq _ c_a0.lt)
  have hI := jv_keep hI (fun q hq => oq q (jv_lt hI hq))
  clear oq hz9 hx9
  have hle9 := jset_le (X := X) (x := x_1) (210, 24, 40, 2, (id : Int)) 0 h0_x_1
  have hI := jv_new1 (t := (210, 24, 40, 2, (id : Int))) (n := 0) hI h0_x_1 trivial (fun q _ => rfl) c_x_1 (jq_e24 (fun j hj => ⟨fun b hb => (by cases hb), fun h9 => absurd h9 (by rw [jset_n]; omega)⟩))
  have hU := jset_U (x := x_1) (t := (210, 24, 40, 2, (id : Int))) 0 hU h0_x_1 (fun _ => hno_b)
  have hJ := nw_set (x := x_1) (t := (210, 24, 40, 2, (id : Int))) 0 hJ h0_x_1 (Or.inr hge_x_1) (by simp [Lc])
  have hno_a := jset_no (x := x_1) (t := (210, 24, 40, 2, (id : Int))) 0 hno_a (by simp)
  have hno_c := jset_no (x := x_1) (t := (210, 24, 40, 2, (id : Int))) 0 hno_c (by simp)
  have g_x_1 := jset_self X x_1 (210, 24, 40, 2, (id : Int)) 0
  have gn_x_1 := jset_n X x_1 (210, 24, 40, 2, (id : Int)) 0
  have h0_a0 : ((jset X x_1 (210, 24, 40, 2, (id : Int)) 0).1 a0).2.1 = 0 := by rw [jset_ne X _ _ (Ne.symm hne_x_1_a0)]; exact h0_a0
  obtain ⟨X, hY9⟩ : ∃ Y9 : jG, Y9 = jset X x_1 (210, 24, 40, 2, (id : Int)) 0 := ⟨_, rfl⟩
  rw [← hY9] at hle9 hI hU hJ hno_a hno_c g_x_1 gn_x_1 h0_a0
  clear hY9
  clear hle9
  refine iz_putF (D := (dC, dI)) (ci := 0) (v := .ref x_1) (ty := .array (.object "JoinBench$Form")) (C := RX0) (T := TX0) (N := 3) hx hb hts hinX0 tyX0 tyX0_ok nmX0 hown hK c_a0 hS hA0 rfl 0 (by decide) hL11 (fun _ h9 => h9) rfl hin rfl (by decide +kernel) rfl rfl (Nat.le_of_ble_eq_true rfl) dX0_init_10 (fun H locs c9 oq hS hz9 => ?_)
  clear hz9
  have hI := jv_skip hI h0_a0 oq
  have c_a0 := c9
  clear oq c9
  refine lv_aload_n hx hb dX0_init_13 rfl (lv_at hl 0 rfl) ?_
  refine lv_bipush (v := kz 40) hx hb dX0_init_14 (by decide) ?_
  have hzH : n0 ≤ H.size := by have h8 := hS.1; omega
  refine jz_newq (own := RX0) (C := RX7) (kd := 25) (N := 40) hx hb hown (hts (.classLink RX0 17 RX7) (by decide +kernel)) (jN_AO hN).2.1 hK 5 rfl hS (by decide) (by decide) (Nat.le_of_ble_eq_true rfl) (Nat.le_of_ble_eq_true rfl) dX0_init_16 (fun x_2 H hx9 c_x_2 oq hz9 hS => ?_)
  have h0_x_2 : (X.1 x_2).2.1 = 0 := jv_out hI (by omega)
  have hge_x_2 : n0 ≤ x_2 := by omega
  have hne_x_2_a0 : x_2 ≠ a0 := by have h9 := c_a0.lt; omega
  have c_a0 := c_a0.kept (oq _ c_a0.lt)
  have hI := jv_keep hI (fun q hq => oq q (jv_lt hI hq))
  clear oq hz9 hx9
  have hle9 := jset_le (X := X) (x := x_2) (211, 25, 40, 7, (id : Int)) 0 h0_x_2
  have hI := jv_new1 (t := (211, 25, 40, 7, (id : Int))) (n := 0) hI h0_x_2 trivial (fun q _ => rfl) c_x_2 (jq_e25 (fun j hj b hb => (by cases hb)))
  have hU := jset_U (x := x_2) (t := (211, 25, 40, 7, (id : Int))) 0 hU h0_x_2 (fun _ => hno_c)
  have hJ := nw_set (x := x_2) (t := (211, 25, 40, 7, (id : Int))) 0 hJ h0_x_2 (Or.inr hge_x_2) (by simp [Lc])
  have hno_a := jset_no (x := x_2) (t := (211, 25, 40, 7, (id : Int))) 0 hno_a (by simp)
  have g_x_2 := jset_self X x_2 (211, 25, 40, 7, (id : Int)) 0
  have gn_x_2 := jset_n X x_2 (211, 25, 40, 7, (id : Int)) 0
  have h0_a0 : ((jset X x_2 (211, 25, 40, 7, (id : Int)) 0).1 a0).2.1 = 0 := by rw [jset_ne X _ _ (Ne.symm hne_x_2_a0)]; exact h0_a0
  obtain ⟨X, hY9⟩ : ∃ Y9 : jG, Y9 = jset X x_2 (211, 25, 40, 7, (id : Int)) 0 := ⟨_, rfl⟩
  rw [← hY9] at hle9 hI hU hJ hno_a g_x_2 gn_x_2 h0_a0
  clear hY9
  have g_x_1 := le_t hle9 g_x_1 (show (24 : Nat) ≠ 0 by decide)
  clear hle9
  refine iz_putF (D := (dC, dI)) (ci := 0) (v := .ref x_2) (ty := .array (.object "JoinBench$Rule")) (C := RX0) (T := TX0) (N := 3) hx hb hts hinX0 tyX0 tyX0_ok nmX0 hown hK c_a0 hS hA0 rfl 1 (by decide) hL19 (fun _ h9 => h9) rfl hin rfl (by decide +kernel) rfl rfl (Nat.le_of_ble_eq_true rfl) dX0_init_19 (fun H locs c9 oq hS hz9 => ?_)
  clear hz9
  have hI := jv_skip hI h0_a0 oq
  have c_a0 := c9
  clear oq c9
  refine lv_aload_n hx hb dX0_init_22 rfl (lv_at hl 0 rfl) ?_
  refine lv_iconst (v := kz 0) hx hb dX0_init_23 rfl ?_
  refine iz_put (D := (dC, dI)) (ci := 0) (v := .int (kz 0)) (ty := .int) (C := RX0) (T := TX0) (N := 3) hx hb hts hinX0 tyX0 tyX0_ok nmX0 hown hK c_a0 hS hA0 rfl 2 (by decide) hL23 (fun _ h9 => h9) rfl (by decide +kernel) rfl rfl (Nat.le_of_ble_eq_true rfl) dX0_init_24 (fun H locs c9 oq hS => ?_)
  have hI := jv_skip hI h0_a0 oq
  have c_a0 := c9
  clear oq c9
  have hleE := jset_le (X := X) (x := a0) (0, 30, id, 0, 0) 0 h0_a0
  have hle9 := jset_le (X := X) (x := a0) (0, 30, id, 0, 0) 0 h0_a0
  have hI := jv_new1 (t := (0, 30, id, 0, 0)) (n := 0) hI h0_a0 trivial (fun q _ => rfl) c_a0 (jv_c0 ⟨x_1, x_2, 0, rfl, le_t hleE g_x_1 (show (24 : Nat) ≠ 0 by decide), le_t hleE g_x_2 (show (25 : Nat) ≠ 0 by decide), ⟨by omega, by omega⟩, by omega⟩)
  have hU := jset_U (x := a0) (t := (0, 30, id, 0, 0)) 0 hU h0_a0 (fun _ => hno_a)
  have hJ := nw_set (x := a0) (t := (0, 30, id, 0, 0)) 0 hJ h0_a0 (Or.inl rfl) (by simp [Lc])
  have g_a0 := jset_self X a0 (0, 30, id, 0, 0) 0
  have gn_a0 := jset_n X a0 (0, 30, id, 0, 0) 0
  obtain ⟨X, hY9⟩ : ∃ Y9 : jG, Y9 = jset X a0 (0, 30, id, 0, 0) 0 := ⟨_, rfl⟩
  rw [← hY9] at hle9 hI hU hJ g_a0 gn_a0
  clear hY9
  clear hle9
  exact W.vret hx hb hr (fun t9 ht hW => ⟨⟨X, rfl, ⟨hJ, g_a0, hU⟩, jK_warm hW ⟨hK, hN⟩, by rw [ht]; exact hI⟩, hS.F ht⟩) hS.2.2 dX0_init_27
set_option maxHeartbeats 4000000 in
set_option maxRecDepth 100000 in
/-- X5_init -/
theorem k_Path (l : Launch) (dC : Nat → ClassId) (dI : Nat → Nat → Nat) (ca : Nat → ClassId) (X : jG) (hU : jU X) (a0 n0 : Nat) (id : Nat) (h0_a0 : (X.1 a0).2.1 = 0) (hno_p : ∀ q : Nat, X.1 q ≠ (5, 30, id, 0, 0)) (hno_a : ∀ q : Nat, X.1 q ≠ (0, 30, id, 0, 0)) (hno_b : ∀ q : Nat, X.1 q ≠ (210, 24, 40, 2, (id : Int))) (hno_c : ∀ q : Nat, X.1 q ≠ (211, 25, 40, 7, (id : Int))) : Met l yX5_init wsX5_init ({ frames := 2, cells := 3, slots := 83, locals := 32 }) (va_Pc [.ref a0] (fun U => U.heap.size = n0 ∧ jK (dC, dI) ca U ∧ jv (dC, dI) ca (fun _ => True) X U.heap ∧ va_at (dC, dI) vwCl (a0, .inr (5, [.null, .int (kz 0), .int (kz 0), .int (kz 0), .int (kz 0), .int (kz 0)])) U.heap)) (va_Qv (fun (u : jG) => jnw X u a0 n0 (5, 30, id, 0, 0) (Lp id)) (fun u U => jK (dC, dI) ca U ∧ jv (dC, dI) ca (fun _ => True) u U.heap) (jA a0 n0)) 3 83 (jA a0 n0) := by
  refine Met.ofW (cc := cX5_init) (maxL := 1) (ret := none) (by decide) rfl ?_
  intro p e s m args below meth c s₁ B hml hv
  obtain ⟨rfl, hsz, ⟨hK, hN⟩, hI, c_a0⟩ := hv
  have hx := B.exec
  have hb := B.bytes
  have hr := B.returns
  have hts := atoms_spec (ws := wsX5_init) B.pre
  have hown : s.vm.findClass RX5 = some m.cls := findClass_of_methodNamed B.named
  have hin : meth.name = "<init>" := (name_of_methodNamed B.named B.method).1
  have hL10 := hts (.fieldLink RX5 10 "JoinBench$Path" "chain" "LJoinBench$Chain;") (by decide +kernel)
  have hL16 := hts (.fieldLink RX5 16 "JoinBench$Path" "cost" "I") (by decide +kernel)
  have hL20 := hts (.fieldLink RX5 20 "JoinBench$Path" "spent" "I") (by decide +kernel)
  have hL23 := hts (.fieldLink RX5 23 "JoinBench$Path" "place" "I") (by decide +kernel)
  have hL26 := hts (.fieldLink RX5 26 "JoinBench$Path" "ended" "Z") (by decide +kernel)
  have hL30 := hts (.fieldLink RX5 30 "JoinBench$Path" "rank" "I") (by decide +kernel)
  have hinX5 : ∀ w ∈ u_ws RX5 TX5 6, w ∈ wsX5_init := by decide +kernel
  have hJ := nw_rf X a0 n0 (Lp id)
  generalize hAe : jA a0 n0 = A
  have hA : ∀ q : Nat, n0 ≤ q → A q := fun q h => by rw [← hAe]; exact Or.inr h
  have hA0 : A a0 := by rw [← hAe]; exact Or.inl rfl
  obtain ⟨H, hH⟩ : ∃ H : Heap, H = s.heap := ⟨_, rfl⟩
  have hS : va_S A s.heap H [] := by rw [hH]; exact va_S.rf
  have hzH : n0 ≤ H.size := by have h8 := hS.1; omega
  rw [← hH] at hI c_a0 ⊢
  clear hH
  have hl := lv_entry ([.ref a0]) (n := 1) (Nat.le_of_ble_eq_true rfl)
  rw [lg_entry_eq]
  generalize (lg_sl ([.ref a0]) ++ List.replicate (1 - (lg_sl ([.ref a0])).length) Slot.unset).toArray = ls at hl ⊢
  have hl : lv_has ls 1 [(0, .ref a0)] := hl
  refine lv_aload_n hx hb dX5_init_0 rfl (lv_at hl 0 rfl) ?_
  refine W.objInit hx hb hown (hts (.methodLink RX5 1 objectInit) (by decide +kernel)) (hts (.instanceMethod objectInit) (by decide +kernel)) (hts _ (List.mem_of_getElem? (i := 3) rfl)) rfl (by rw [hml]; exact hl.1) rfl dX5_init_1 (Nat.le_of_ble_eq_true rfl) (Nat.le_of_ble_eq_true rfl) ?_
  refine lv_aload_n hx hb dX5_init_4 rfl (lv_at hl 0 rfl) ?_
  have hzH : n0 ≤ H.size := by have h8 := hS.1; omega
  refine jz_new (ci := 0) (fs := [.null, .null, .int (kz 0)]) (C := RX0) (T := TX0) (N := 3) hx hb hts (by decide +kernel) tyX0 tyX0_ok hown (hts (.classLink RX5 7 RX0) (by decide +kernel)) (hts (.instantiable RX0 3) (by decide +kernel)) (hts (.initialized RX0) (by decide +kernel)) hK hS rfl (fun j hj => by rcases (show j = 0 ∨ j = 1 ∨ j = 2 by omega) with rfl | rfl | rfl <;> rfl) (Nat.le_of_ble_eq_true rfl) (Nat.le_of_ble_eq_true rfl) dX5_init_5 (fun x_1 H hx9 c_x_1 oq hz9 hS => ?_)
  have h0_x_1 : (X.1 x_1).2.1 = 0 := jv_out hI (by omega)
  have hge_x_1 : n0 ≤ x_1 := by omega
  have hne_x_1_a0 : x_1 ≠ a0 := by have h9 := c_a0.lt; omega
  have c_a0 := c_a0.kept (oq _ c_a0.lt)
  have hI := jv_keep hI (fun q hq => oq q (jv_lt hI hq))
  clear oq hz9 hx9
  refine lv_dup hx hb dX5_init_8 rfl ?_
  have hzH : n0 ≤ H.size := by have h8 := hS.1; omega
  have hxl := c_x_1.lt
  refine va_callv (va_runIN (As := []) (rest := [.ref x_1, .ref a0]) ⟨hx, hb, hml, hown, hts⟩ (k_Chain l dC dI ca X hU x_1 H.size id h0_x_1 hno_a hno_b hno_c) ⟨va_cnB 0 hts gX5_init_X0_init_n9 rfl rfl rfl (jN_X5_9 hN) (hts (.initialized RX0) (by decide +kernel)) (by decide +kernel) ⟨Nat.le_of_ble_eq_true rfl, Nat.le_of_ble_eq_true rfl⟩, rfl, (hts (.instanceMethod yX0_init) (by decide +kernel))⟩ ⟨fun a U g mk q => by obtain ⟨q0, q1, ⟨qK, qN⟩, qI⟩ := q; exact ⟨q0, q1, ⟨va_K.moved (u := U) (U := U.calling g mk a) (Vm.Alike.refl U.vm) qK, jN_same (U := U.calling g mk a) rfl qN⟩, qI⟩, fun U hU9 hW => ⟨rfl, by rw [hU9], jK_warm hW ⟨hK, hN⟩, by rw [hU9]; exact ⟨jv_A2 hI (fun _ _ => trivial), c_x_1⟩⟩⟩ rfl rfl hl.1 rfl (lv_room (Nat.le_of_ble_eq_true rfl)) dX5_init_9 ⟨(Nat.le_of_ble_eq_true rfl), (Nat.le_of_ble_eq_true rfl)⟩) hS (fun q h8 h9 => h9.elim (fun e9 => by rw [e9]; exact (hA _ hge_x_1)) (fun e9 => absurd e9 (by omega))) (fun q h9 => h9.elim (fun e9 => by rw [e9]; exact (hA _ hge_x_1)) (fun e9 => hA q (by omega))) (fun X t9 H locs ht hvm hw_2 hB hz1 hk1 hS => ?_)
  obtain ⟨hw_2, hw_2g, hU⟩ := hw_2
  obtain ⟨-, hI⟩ := hB
  rw [ht] at hI
  clear ht hvm
  have hle9 := nw_le hw_2
  have h9 := c_a0.lt
  have c_a0 := c_a0.kept (hk1 _ h9 (fun e9 => e9.elim (Ne.symm hne_x_1_a0) (fun e8 => absurd e8 (by omega))))
  have h8_a0 := nw_0 hw_2 h0_a0 (Ne.symm hne_x_1_a0) h9
  have h0_a0 := h8_a0
  have hno_p := nw_no hw_2 hno_p (by simp [Lc])
  have hJ := nw_tr hJ hw_2 (Or.inr hge_x_1) hzH (fun c hc => List.mem_cons_of_mem _ hc)
  clear hle9 hxl hk1 hz1
  have g_x_1 := hw_2g
  refine iz_putF (D := (dC, dI)) (ci := 5) (v := .ref x_1) (ty := .object "JoinBench$Chain") (C := RX5) (T := TX5) (N := 6) hx hb hts hinX5 tyX5 tyX5_ok nmX5 hown hK c_a0 hS hA0 rfl 0 (by decide) hL10 (fun _ h9 => h9) rfl hin rfl (by decide +kernel) rfl rfl (Nat.le_of_ble_eq_true rfl) dX5_init_12 (fun H locs c9 oq hS hz9 => ?_)
  clear hz9
  have hI := jv_skip hI h0_a0 oq
  have c_a0 := c9
  clear oq c9
  refine lv_aload_n hx hb dX5_init_15 rfl (lv_at hl 0 rfl) ?_
  refine lv_iconst (v := kz 0) hx hb dX5_init_16 rfl ?_
  refine iz_put (D := (dC, dI)) (ci := 5) (v := .int (kz 0)) (ty := .int) (C := RX5) (T := TX5) (N := 6) hx hb hts hinX5 tyX5 tyX5_ok nmX5 hown hK c_a0 hS hA0 rfl 1 (by decide) hL16 (fun _ h9 => h9) rfl (by decide +kernel) rfl rfl (Nat.le_of_ble_eq_true rfl) dX5_init_17 (fun H locs c9 oq hS => ?_)
  have hI := jv_skip hI h0_a0 oq
  have c_a0 := c9
  clear oq c9
  refine lv_aload_n hx hb dX5_init_20 rfl (lv_at hl 0 rfl) ?_
  refine lv_iconst (v := kz 0) hx hb dX5_init_21 rfl ?_
  refine iz_put (D := (dC, dI)) (ci := 5) (v := .int (kz 0)) (ty := .int) (C := RX5) (T := TX5) (N := 6) hx hb hts hinX5 tyX5 tyX5_ok nmX5 hown hK c_a0 hS hA0 rfl 2 (by decide) hL20 (fun _ h9 => h9) rfl (by decide +kernel) rfl rfl (Nat.le_of_ble_eq_true rfl) dX5_init_22 (fun H locs c9 oq hS => ?_)
  have hI := jv_skip hI h0_a0 oq
  have c_a0 := c9
  clear oq c9
  refine lv_aload_n hx hb dX5_init_25 rfl (lv_at hl 0 rfl) ?_
  refine lv_iconst (v := kz 0) hx hb dX5_init_26 rfl ?_
  refine iz_put (D := (dC, dI)) (ci := 5) (v := .int (kz 0)) (ty := .int) (C := RX5) (T := TX5) (N := 6) hx hb hts hinX5 tyX5 tyX5_ok nmX5 hown hK c_a0 hS hA0 rfl 3 (by decide) hL23 (fun _ h9 => h9) rfl (by decide +kernel) rfl rfl (Nat.le_of_ble_eq_true rfl) dX5_init_27 (fun H locs c9 oq hS => ?_)
  have hI := jv_skip hI h0_a0 oq
  have c_a0 := c9
  clear oq c9
  refine lv_aload_n hx hb dX5_init_30 rfl (lv_at hl 0 rfl) ?_
  refine lv_iconst (v := kz 0) hx hb dX5_init_31 rfl ?_
  refine iz_put (D := (dC, dI)) (ci := 5) (v := .int (kz 0)) (ty := .boolean) (C := RX5) (T := TX5) (N := 6) hx hb hts hinX5 tyX5 tyX5_ok nmX5 hown hK c_a0 hS hA0 rfl 4 (by decide) hL26 (fun _ h9 => h9) rfl (by decide +kernel) (by decide) rfl (Nat.le_of_ble_eq_true rfl) dX5_init_32 (fun H locs c9 oq hS => ?_)
  have hI := jv_skip hI h0_a0 oq
  have c_a0 := c9
  clear oq c9
  refine lv_aload_n hx hb dX5_init_35 rfl (lv_at hl 0 rfl) ?_
  refine lv_iconst (v := kz 0) hx hb dX5_init_36 rfl ?_
  refine iz_put (D := (dC, dI)) (ci := 5) (v := .int (kz 0)) (ty := .int) (C := RX5) (T := TX5) (N := 6) hx hb hts hinX5 tyX5 tyX5_ok nmX5 hown hK c_a0 hS hA0 rfl 5 (by decide) hL30 (fun _ h9 => h9) rfl (by decide +kernel) rfl rfl (Nat.le_of_ble_eq_true rfl) dX5_init_37 (fun H locs c9 oq hS => ?_)
  have hI := jv_skip hI h0_a0 oq
  have c_a0 := c9
  clear oq c9
  have hleE := jset_le (X := X) (x := a0) (5, 30, id, 0, 0) 0 h0_a0
  have hle9 := jset_le (X := X) (x := a0) (5, 30, id, 0, 0) 0 h0_a0
  have hI := jv_new1 (t := (5, 30, id, 0, 0)) (n := 0) hI h0_a0 trivial (fun q _ => rfl) c_a0 (jv_c5 ⟨x_1, 0, 0, 0, 0, 0, rfl, le_t hleE g_x_1 (show (30 : Nat) ≠ 0 by decide), ⟨by omega, by omega⟩, ⟨by omega, by omega⟩, ⟨by omega, by omega⟩, ⟨by omega, by omega⟩, ⟨by omega, by omega⟩⟩)
  have hU := jset_U (x := a0) (t := (5, 30, id, 0, 0)) 0 hU h0_a0 (fun _ => hno_p)
  have hJ := nw_set (x := a0) (t := (5, 30, id, 0, 0)) 0 hJ h0_a0 (Or.inl rfl) (by simp [Lp, Lc])
  have g_a0 := jset_self X a0 (5, 30, id, 0, 0) 0
  have gn_a0 := jset_n X a0 (5, 30, id, 0, 0) 0
  obtain ⟨X, hY9⟩ : ∃ Y9 : jG, Y9 = jset X a0 (5, 30, id, 0, 0) 0 := ⟨_, rfl⟩
  rw [← hY9] at hle9 hI hU hJ g_a0 gn_a0
  clear hY9
  clear hle9
  exact W.vret hx hb hr (fun t9 ht hW => ⟨⟨X, rfl, ⟨hJ, g_a0, hU⟩, jK_warm hW ⟨hK, hN⟩, by rw [ht]; exact hI⟩, hS.F ht⟩) hS.2.2 dX5_init_40
def Ll : List kTy := [(3, 30, 0, 0, 0), (219, 27, 40, 232, 160), (204, 21, 40, 0, 0), (220, 23, 160, 0, 0), (221, 28, 40, 233, 40), (222, 27, 40, 234, 40), (223, 28, 40, 235, 144), (224, 27, 40, 236, 144), (225, 22, 36, 0, 0), (232, 20, 160, -2147483648, 2147483647), (233, 23, 40, 0, 0), (234, 20, 40, -2147483648, 2147483647), (235, 23, 144, 0, 0), (236, 20, 144, -2147483648, 2147483647)]
set_option maxHeartbeats 4000000 in
set_option maxRecDepth 100000 in
/-- X3_init -/
theorem k_Lattice (l : Launch) (dC : Nat → ClassId) (dI : Nat → Nat → Nat) (ca : Nat → ClassId) (X : jG) (hU : jU X) (a0 n0 : Nat) (tg : Nat) (h0_a0 : (X.1 a0).2.1 = 0) (g_tg : X.1 tg = (9, 30, 0, 0, 0)) (hno_3 : ∀ q : Nat, X.1 q ≠ (3, 30, 0, 0, 0)) (hno_219 : ∀ q : Nat, X.1 q ≠ (219, 27, 40, 232, 160)) (hno_204 : ∀ q : Nat, X.1 q ≠ (204, 21, 40, 0, 0)) (hno_220 : ∀ q : Nat, X.1 q ≠ (220, 23, 160, 0, 0)) (hno_221 : ∀ q : Nat, X.1 q ≠ (221, 28, 40, 233, 40)) (hno_222 : ∀ q : Nat, X.1 q ≠ (222, 27, 40, 234, 40)) (hno_223 : ∀ q : Nat, X.1 q ≠ (223, 28, 40, 235, 144)) (hno_224 : ∀ q : Nat, X.1 q ≠ (224, 27, 40, 236, 144)) (hno_225 : ∀ q : Nat, X.1 q ≠ (225, 22, 36, 0, 0)) : Met l yX3_init wsX3_init ({ frames := 1, cells := 208, slots := 21556, locals := 12 }) (va_Pc [.ref a0, .ref tg] (fun U => U.heap.size = n0 ∧ jK (dC, dI) ca U ∧ jv (dC, dI) ca (fun _ => True) X U.heap ∧ va_at (dC, dI) vwCl (a0, .inr (3, [.null, .int (kz 0), .null, .null, .null, .null, .null, .null, .null, .int (kz 0), .null])) U.heap)) (va_Qv (fun (u : jG) => jnw X u a0 n0 (3, 30, 0, 0, 0) Ll) (fun u U => jK (dC, dI) ca U ∧ jv (dC, dI) ca (fun _ => True) u U.heap) (jA a0 n0)) 208 21556 (jA a0 n0) := by
  refine Met.ofW (cc := cX3_init) (maxL := 2) (ret := none) (by decide) rfl ?_
  intro p e s m args below meth c s₁ B hml hv
  obtain ⟨rfl, hsz, ⟨hK, hN⟩, hI, c_a0⟩ := hv
  have hx := B.exec
  have hb := B.bytes
  have hr := B.returns
  have hts := atoms_spec (ws := wsX3_init) B.pre
  have hown : s.vm.findClass RX3 = some m.cls := findClass_of_methodNamed B.named
  have hin : meth.name = "<init>" := (name_of_methodNamed B.named B.method).1
  have hL11 := hts (.fieldLink RX3 11 "JoinBench$Lattice" "cheapest" "[[I") (by decide +kernel)
  have hL16 := hts (.fieldLink RX3 16 "JoinBench$Lattice" "size" "I") (by decide +kernel)
  have hL20 := hts (.fieldLink RX3 20 "JoinBench$Lattice" "line" "[B") (by decide +kernel)
  have hL24 := hts (.fieldLink RX3 24 "JoinBench$Lattice" "ways" "[J") (by decide +kernel)
  have hL30 := hts (.fieldLink RX3 30 "JoinBench$Lattice" "plainWays" "[[J") (by decide +kernel)
  have hL33 := hts (.fieldLink RX3 33 "JoinBench$Lattice" "plainCheapest" "[[I") (by decide +kernel)
  have hL36 := hts (.fieldLink RX3 36 "JoinBench$Lattice" "ruledWays" "[[J") (by decide +kernel)
  have hL39 := hts (.fieldLink RX3 39 "JoinBench$Lattice" "ruledCheapest" "[[I") (by decide +kernel)
  have hL42 := hts (.fieldLink RX3 42 "JoinBench$Lattice" "inForce" "I") (by decide +kernel)
  have hL45 := hts (.fieldLink RX3 45 "JoinBench$Lattice" "barred" "[Z") (by decide +kernel)
  have hL49 := hts (.fieldLink RX3 49 "JoinBench$Lattice" "tongue" "LJoinBench$Tongue;") (by decide +kernel)
  have hinX3 : ∀ w ∈ u_ws RX3 TX3 11, w ∈ wsX3_init := by decide +kernel
  have hJ := nw_rf X a0 n0 Ll
  generalize hAe : jA a0 n0 = A
  have hA : ∀ q : Nat, n0 ≤ q → A q := fun q h => by rw [← hAe]; exact Or.inr h
  have hA0 : A a0 := by rw [← hAe]; exact Or.inl rfl
  obtain ⟨H, hH⟩ : ∃ H : Heap, H = s.heap := ⟨_, rfl⟩
  have hS : va_S A s.heap H [] := by rw [hH]; exact va_S.rf
  have hzH : n0 ≤ H.size := by have h8 := hS.1; omega
  rw [← hH] at hI c_a0 ⊢
  clear hH
  have hl := lv_entry ([.ref a0, .ref tg]) (n := 2) (Nat.le_of_ble_eq_true rfl)
  rw [lg_entry_eq]
  generalize (lg_sl ([.ref a0, .ref tg]) ++ List.replicate (2 - (lg_sl ([.ref a0, .ref tg])).length) Slot.unset).toArray = ls at hl ⊢
  have hl : lv_has ls 2 [(0, .ref a0), (1, .ref tg)] := hl
  refine lv_aload_n hx hb dX3_init_0 rfl (lv_at hl 0 rfl) ?_
  refine W.objInit hx hb hown (hts (.methodLink RX3 3 objectInit) (by decide +kernel)) (hts (.instanceMethod objectInit) (by decide +kernel)) (hts _ (List.mem_of_getElem? (i := 3) rfl)) rfl (by rw [hml]; exact hl.1) rfl dX3_init_1 (Nat.le_of_ble_eq_true rfl) (Nat.le_of_ble_eq_true rfl) ?_
  refine lv_aload_n hx hb dX3_init_4 rfl (lv_at hl 0 rfl) ?_
  refine lv_bipush (v := kz 40) hx hb dX3_init_5 (by decide) ?_
  refine lv_sipush (v := kz 160) hx hb dX3_init_7 (by decide) ?_
  have hzH : n0 ≤ H.size := by have h8 := hS.1; omega
  refine jz_mna (ty := .int) (kd := 27) (N := 40) (M := 160) hx hb hown (hts (.classLink RX3 9 "[[I") (by decide +kernel)) (jN_AO hN).2.2.2.1 (hts (.arrayClass .int) (by decide +kernel)) hK 0 7 rfl rfl (fun h9 => h9) hS (fun q h8 => hA q (by omega)) (by decide) (by decide) (by decide) (by decide) (by decide) (r0 := (160, .inl (fun _ => 0))) rfl rfl rfl (Nat.le_of_ble_eq_true rfl) (Nat.le_of_ble_eq_true rfl) dX3_init_10 (fun x_1 H locs hx9 c_x_1 r9 oq hz9 hS => ?_)
  have hu9 : ∀ q : Nat, x_1 ≤ q → (X.1 q).2.1 = 0 := fun q hq => jv_out hI (by omega)
  have hlt_a0 : a0 < x_1 := by have h9 := c_a0.lt; omega
  have c_a0 := c_a0.kept (oq _ c_a0.lt)
  have hz8 : n0 ≤ x_1 := by rw [hx9]; exact hzH
  have hle9 := jmul_le (X := X) (x := x_1) (N := 40) (219, 27, 40, 232, 160) (232, 20, 160, -2147483648, 2147483647) hu9
  have hI := jv_mul (x := x_1) (N := 40) (t := (219, 27, 40, 232, 160)) (tr := (232, 20, 160, -2147483648, 2147483647)) hI (by omega) (fun q h9 => trivial) (fun q hq => oq q (jv_lt hI hq)) c_x_1 r9 (jq_e27 (fun j hj => ⟨x_1 + 1 + j, if_pos hj, jmul_row X _ _ (by omega)⟩)) (fun q => jz_e20 (by decide))
  have hU := jmul_U (x := x_1) (N := 40) (t := (219, 27, 40, 232, 160)) (tr := (232, 20, 160, -2147483648, 2147483647)) hU (fun _ => hno_219) (by decide)
  have hJ := nw_mul (x := x_1) (N := 40) (t := (219, 27, 40, 232, 160)) (tr := (232, 20, 160, -2147483648, 2147483647)) hJ hu9 hz8 (by simp [Ll]) (by simp [Ll])
  have hno_3 := jmul_no (x := x_1) (N := 40) (t := (219, 27, 40, 232, 160)) (tr := (232, 20, 160, -2147483648, 2147483647)) hno_3 (by decide) (by decide)
  have hno_204 := jmul_no (x := x_1) (N := 40) (t := (219, 27, 40, 232, 160)) (tr := (232, 20, 160, -2147483648, 2147483647)) hno_204 (by decide) (by decide)
  have hno_220 := jmul_no (x := x_1) (N := 40) (t := (219, 27, 40, 232, 160)) (tr := (232, 20, 160, -2147483648, 2147483647)) hno_220 (by decide) (by decide)
  have hno_221 := jmul_no (x := x_1) (N := 40) (t := (219, 27, 40, 232, 160)) (tr := (232, 20, 160, -2147483648, 2147483647)) hno_221 (by decide) (by decide)
  have hno_222 := jmul_no (x := x_1) (N := 40) (t := (219, 27, 40, 232, 160)) (tr := (232, 20, 160, -2147483648, 2147483647)) hno_222 (by decide) (by decide)
  have hno_223 := jmul_no (x := x_1) (N := 40) (t := (219, 27, 40, 232, 160)) (tr := (232, 20, 160, -2147483648, 2147483647)) hno_223 (by decide) (by decide)
  have hno_224 := jmul_no (x := x_1) (N := 40) (t := (219, 27, 40, 232, 160)) (tr := (232, 20, 160, -2147483648, 2147483647)) hno_224 (by decide) (by decide)
  have hno_225 := jmul_no (x := x_1) (N := 40) (t := (219, 27, 40, 232, 160)) (tr := (232, 20, 160, -2147483648, 2147483647)) hno_225 (by decide) (by decide)
  have g_x_1 := jmul_self X x_1 40 (219, 27, 40, 232, 160) (232, 20, 160, -2147483648, 2147483647)
  have h0_a0 : ((jmul X x_1 40 (219, 27, 40, 232, 160) (232, 20, 160, -2147483648, 2147483647)).1 a0).2.1 = 0 := by rw [jmul_ne X _ _ (Or.inl hlt_a0)]; exact h0_a0
  obtain ⟨X, hY9⟩ : ∃ Y9 : jG, Y9 = jmul X x_1 40 (219, 27, 40, 232, 160) (232, 20, 160, -2147483648, 2147483647) := ⟨_, rfl⟩
  rw [← hY9] at hle9 hI hU hJ hno_3 hno_204 hno_220 hno_221 hno_222 hno_223 hno_224 hno_225 g_x_1 h0_a0
  clear hY9
  have hzH : n0 ≤ H.size := by have h8 := hS.1; omega
  have g_tg := le_t hle9 g_tg (show (30 : Nat) ≠ 0 by decide)
  clear hle9 hu9 hz8 oq hz9 hx9 r9
  refine iz_putF (D := (dC, dI)) (ci := 3) (v := .ref x_1) (ty := .array (.array .int)) (C := RX3) (T := TX3) (N := 11) hx hb hts hinX3 tyX3 tyX3_ok nmX3 hown hK c_a0 hS hA0 rfl 0 (by decide) hL11 (fun _ h9 => h9) rfl hin rfl (by decide +kernel) rfl rfl (Nat.le_of_ble_eq_true rfl) dX3_init_14 (fun H locs c9 oq hS hz9 => ?_)
  clear hz9
  have hI := jv_skip hI h0_a0 oq
  have c_a0 := c9
  clear oq c9
  refine lv_aload_n hx hb dX3_init_17 rfl (lv_at hl 0 rfl) ?_
  refine lv_iconst (v := kz 0) hx hb dX3_init_18 rfl ?_
  refine iz_put (D := (dC, dI)) (ci := 3) (v := .int (kz 0)) (ty := .int) (C := RX3) (T := TX3) (N := 11) hx hb hts hinX3 tyX3 tyX3_ok nmX3 hown hK c_a0 hS hA0 rfl 1 (by decide) hL16 (fun _ h9 => h9) rfl (by decide +kernel) rfl rfl (Nat.le_of_ble_eq_true rfl) dX3_init_19 (fun H locs c9 oq hS => ?_)
  have hI := jv_skip hI h0_a0 oq
  have c_a0 := c9
  clear oq c9
  refine lv_aload_n hx hb dX3_init_22 rfl (lv_at hl 0 rfl) ?_
  refine lv_bipush (v := kz 40) hx hb dX3_init_23 (by decide) ?_
  have hzH : n0 ≤ H.size := by have h8 := hS.1; omega
  refine jz_newa (atype := .byte) (ty := .byte) (N := 40) hx hb (hts (.arrayClass .byte) (by decide +kernel)) rfl hK 1 rfl hS (a0 := (40, .inl (fun _ => 0))) rfl (by decide) (by decide) (Nat.le_of_ble_eq_true rfl) (Nat.le_of_ble_eq_true rfl) dX3_init_25 (fun x_2 H hx9 c_x_2 oq hz9 hS => ?_)
  have h0_x_2 : (X.1 x_2).2.1 = 0 := jv_out hI (by omega)
  have hge_x_2 : n0 ≤ x_2 := by omega
  have hne_x_2_a0 : x_2 ≠ a0 := by have h9 := c_a0.lt; omega
  have c_a0 := c_a0.kept (oq _ c_a0.lt)
  have hI := jv_keep hI (fun q hq => oq q (jv_lt hI hq))
  clear oq hz9 hx9
  have hle9 := jset_le (X := X) (x := x_2) (204, 21, 40, 0, 0) 0 h0_x_2
  have hI := jv_new1 (t := (204, 21, 40, 0, 0)) (n := 0) hI h0_x_2 trivial (fun q _ => rfl) c_x_2 (jz_e21 (show (204 : Nat) ≠ 200 by decide))
  have hU := jset_U (x := x_2) (t := (204, 21, 40, 0, 0)) 0 hU h0_x_2 (fun _ => hno_204)
  have hJ := nw_set (x := x_2) (t := (204, 21, 40, 0, 0)) 0 hJ h0_x_2 (Or.inr hge_x_2) (by simp [Ll])
  have hno_3 := jset_no (x := x_2) (t := (204, 21, 40, 0, 0)) 0 hno_3 (by decide)
  have hno_220 := jset_no (x := x_2) (t := (204, 21, 40, 0, 0)) 0 hno_220 (by decide)
  have hno_221 := jset_no (x := x_2) (t := (204, 21, 40, 0, 0)) 0 hno_221 (by decide)
  have hno_222 := jset_no (x := x_2) (t := (204, 21, 40, 0, 0)) 0 hno_222 (by decide)
  have hno_223 := jset_no (x := x_2) (t := (204, 21, 40, 0, 0)) 0 hno_223 (by decide)
  have hno_224 := jset_no (x := x_2) (t := (204, 21, 40, 0, 0)) 0 hno_224 (by decide)
  have hno_225 := jset_no (x := x_2) (t := (204, 21, 40, 0, 0)) 0 hno_225 (by decide)
  have g_x_2 := jset_self X x_2 (204, 21, 40, 0, 0) 0
  have gn_x_2 := jset_n X x_2 (204, 21, 40, 0, 0) 0
  have h0_a0 : ((jset X x_2 (204, 21, 40, 0, 0) 0).1 a0).2.1 = 0 := by rw [jset_ne X _ _ (Ne.symm hne_x_2_a0)]; exact h0_a0
  obtain ⟨X, hY9⟩ : ∃ Y9 : jG, Y9 = jset X x_2 (204, 21, 40, 0, 0) 0 := ⟨_, rfl⟩
  rw [← hY9] at hle9 hI hU hJ hno_3 hno_220 hno_221 hno_222 hno_223 hno_224 hno_225 g_x_2 gn_x_2 h0_a0
  clear hY9
  have g_tg := le_t hle9 g_tg (show (30 : Nat) ≠ 0 by decide)
  have g_x_1 := le_t hle9 g_x_1 (show (27 : Nat) ≠ 0 by decide)
  clear hle9
  refine iz_putF (D := (dC, dI)) (ci := 3) (v := .ref x_2) (ty := .array .byte) (C := RX3) (T := TX3) (N := 11) hx hb hts hinX3 tyX3 tyX3_ok nmX3 hown hK c_a0 hS hA0 rfl 3 (by decide) hL20 (fun _ h9 => h9) rfl hin rfl (by decide +kernel) rfl rfl (Nat.le_of_ble_eq_true rfl) dX3_init_27 (fun H locs c9 oq hS hz9 => ?_)
  clear hz9
  have hI := jv_skip hI h0_a0 oq
  have c_a0 := c9
  clear oq c9
  refine lv_aload_n hx hb dX3_init_30 rfl (lv_at hl 0 rfl) ?_
  refine lv_sipush (v := kz 160) hx hb dX3_init_31 (by decide) ?_
  have hzH : n0 ≤ H.size := by have h8 := hS.1; omega
  refine jz_newa (atype := .long) (ty := .long) (N := 160) hx hb (hts (.arrayClass .long) (by decide +kernel)) rfl hK 3 rfl hS (a0 := (160, .inr (.inl (fun _ => 0)))) rfl (by decide) (by decide) (Nat.le_of_ble_eq_true rfl) (Nat.le_of_ble_eq_true rfl) dX3_init_34 (fun x_3 H hx9 c_x_3 oq hz9 hS => ?_)
  have h0_x_3 : (X.1 x_3).2.1 = 0 := jv_out hI (by omega)
  have hge_x_3 : n0 ≤ x_3 := by omega
  have hne_x_3_a0 : x_3 ≠ a0 := by have h9 := c_a0.lt; omega
  have c_a0 := c_a0.kept (oq _ c_a0.lt)
  have hI := jv_keep hI (fun q hq => oq q (jv_lt hI hq))
  clear oq hz9 hx9
  have hle9 := jset_le (X := X) (x := x_3) (220, 23, 160, 0, 0) 0 h0_x_3
  have hI := jv_new1 (t := (220, 23, 160, 0, 0)) (n := 0) hI h0_x_3 trivial (fun q _ => rfl) c_x_3 (jz_e23)
  have hU := jset_U (x := x_3) (t := (220, 23, 160, 0, 0)) 0 hU h0_x_3 (fun _ => hno_220)
  have hJ := nw_set (x := x_3) (t := (220, 23, 160, 0, 0)) 0 hJ h0_x_3 (Or.inr hge_x_3) (by simp [Ll])
  have hno_3 := jset_no (x := x_3) (t := (220, 23, 160, 0, 0)) 0 hno_3 (by decide)
  have hno_221 := jset_no (x := x_3) (t := (220, 23, 160, 0, 0)) 0 hno_221 (by decide)
  have hno_222 := jset_no (x := x_3) (t := (220, 23, 160, 0, 0)) 0 hno_222 (by decide)
  have hno_223 := jset_no (x := x_3) (t := (220, 23, 160, 0, 0)) 0 hno_223 (by decide)
  have hno_224 := jset_no (x := x_3) (t := (220, 23, 160, 0, 0)) 0 hno_224 (by decide)
  have hno_225 := jset_no (x := x_3) (t := (220, 23, 160, 0, 0)) 0 hno_225 (by decide)
  have g_x_3 := jset_self X x_3 (220, 23, 160, 0, 0) 0
  have gn_x_3 := jset_n X x_3 (220, 23, 160, 0, 0) 0
  have h0_a0 : ((jset X x_3 (220, 23, 160, 0, 0) 0).1 a0).2.1 = 0 := by rw [jset_ne X _ _ (Ne.symm hne_x_3_a0)]; exact h0_a0
  obtain ⟨X, hY9⟩ : ∃ Y9 : jG, Y9 = jset X x_3 (220, 23, 160, 0, 0) 0 := ⟨_, rfl⟩
  rw [← hY9] at hle9 hI hU hJ hno_3 hno_221 hno_222 hno_223 hno_224 hno_225 g_x_3 gn_x_3 h0_a0
  clear hY9
  have g_tg := le_t hle9 g_tg (show (30 : Nat) ≠ 0 by decide)
  have g_x_1 := le_t hle9 g_x_1 (show (27 : Nat) ≠ 0 by decide)
  have g_x_2 := le_t hle9 g_x_2 (show (21 : Nat) ≠ 0 by decide)
  clear hle9
  refine iz_putF (D := (dC, dI)) (ci := 3) (v := .ref x_3) (ty := .array .long) (C := RX3) (T := TX3) (N := 11) hx hb hts hinX3 tyX3 tyX3_ok nmX3 hown hK c_a0 hS hA0 rfl 4 (by decide) hL24 (fun _ h9 => h9) rfl hin rfl (by decide +kernel) rfl rfl (Nat.le_of_ble_eq_true rfl) dX3_init_36 (fun H locs c9 oq hS hz9 => ?_)
  clear hz9
  have hI := jv_skip hI h0_a0 oq
  have c_a0 := c9
  clear oq c9
  refine lv_aload_n hx hb dX3_init_39 rfl (lv_at hl 0 rfl) ?_
  refine lv_bipush (v := kz 40) hx hb dX3_init_40 (by decide) ?_
  refine lv_bipush (v := kz 40) hx hb dX3_init_42 (by decide) ?_
  have hzH : n0 ≤ H.size := by have h8 := hS.1; omega
  refine jz_mna (ty := .long) (kd := 28) (N := 40) (M := 40) hx hb hown (hts (.classLink RX3 28 "[[J") (by decide +kernel)) (jN_AO hN).2.2.2.2 (hts (.arrayClass .long) (by decide +kernel)) hK 3 8 rfl rfl (fun h9 => h9) hS (fun q h8 => hA q (by omega)) (by decide) (by decide) (by decide) (by decide) (by decide) (r0 := (40, .inr (.inl (fun _ => 0)))) rfl rfl rfl (Nat.le_of_ble_eq_true rfl) (Nat.le_of_ble_eq_true rfl) dX3_init_44 (fun x_4 H locs hx9 c_x_4 r9 oq hz9 hS => ?_)
  have hu9 : ∀ q : Nat, x_4 ≤ q → (X.1 q).2.1 = 0 := fun q hq => jv_out hI (by omega)
  have hlt_a0 : a0 < x_4 := by have h9 := c_a0.lt; omega
  have c_a0 := c_a0.kept (oq _ c_a0.lt)
  have hz8 : n0 ≤ x_4 := by rw [hx9]; exact hzH
  have hle9 := jmul_le (X := X) (x := x_4) (N := 40) (221, 28, 40, 233, 40) (233, 23, 40, 0, 0) hu9
  have hI := jv_mul (x := x_4) (N := 40) (t := (221, 28, 40, 233, 40)) (tr := (233, 23, 40, 0, 0)) hI (by omega) (fun q h9 => trivial) (fun q hq => oq q (jv_lt hI hq)) c_x_4 r9 (jq_e28 (fun j hj => ⟨x_4 + 1 + j, if_pos hj, jmul_row X _ _ (by omega)⟩)) (fun q => jz_e23)
  have hU := jmul_U (x := x_4) (N := 40) (t := (221, 28, 40, 233, 40)) (tr := (233, 23, 40, 0, 0)) hU (fun _ => hno_221) (by decide)
  have hJ := nw_mul (x := x_4) (N := 40) (t := (221, 28, 40, 233, 40)) (tr := (233, 23, 40, 0, 0)) hJ hu9 hz8 (by simp [Ll]) (by simp [Ll])
  have hno_3 := jmul_no (x := x_4) (N := 40) (t := (221, 28, 40, 233, 40)) (tr := (233, 23, 40, 0, 0)) hno_3 (by decide) (by decide)
  have hno_222 := jmul_no (x := x_4) (N := 40) (t := (221, 28, 40, 233, 40)) (tr := (233, 23, 40, 0, 0)) hno_222 (by decide) (by decide)
  have hno_223 := jmul_no (x := x_4) (N := 40) (t := (221, 28, 40, 233, 40)) (tr := (233, 23, 40, 0, 0)) hno_223 (by decide) (by decide)
  have hno_224 := jmul_no (x := x_4) (N := 40) (t := (221, 28, 40, 233, 40)) (tr := (233, 23, 40, 0, 0)) hno_224 (by decide) (by decide)
  have hno_225 := jmul_no (x := x_4) (N := 40) (t := (221, 28, 40, 233, 40)) (tr := (233, 23, 40, 0, 0)) hno_225 (by decide) (by decide)
  have g_x_4 := jmul_self X x_4 40 (221, 28, 40, 233, 40) (233, 23, 40, 0, 0)
  have h0_a0 : ((jmul X x_4 40 (221, 28, 40, 233, 40) (233, 23, 40, 0, 0)).1 a0).2.1 = 0 := by rw [jmul_ne X _ _ (Or.inl hlt_a0)]; exact h0_a0
  obtain ⟨X, hY9⟩ : ∃ Y9 : jG, Y9 = jmul X x_4 40 (221, 28, 40, 233, 40) (233, 23, 40, 0, 0) := ⟨_, rfl⟩
  rw [← hY9] at hle9 hI hU hJ hno_3 hno_222 hno_223 hno_224 hno_225 g_x_4 h0_a0
  clear hY9
  have hzH : n0 ≤ H.size := by have h8 := hS.1; omega
  have g_tg := le_t hle9 g_tg (show (30 : Nat) ≠ 0 by decide)
  have g_x_1 := le_t hle9 g_x_1 (show (27 : Nat) ≠ 0 by decide)
  have g_x_2 := le_t hle9 g_x_2 (show (21 : Nat) ≠ 0 by decide)
  have g_x_3 := le_t hle9 g_x_3 (show (23 : Nat) ≠ 0 by decide)
  clear hle9 hu9 hz8 oq hz9 hx9 r9
  refine iz_putF (D := (dC, dI)) (ci := 3) (v := .ref x_4) (ty := .array (.array .long)) (C := RX3) (T := TX3) (N := 11) hx hb hts hinX3 tyX3 tyX3_ok nmX3 hown hK c_a0 hS hA0 rfl 5 (by decide) hL30 (fun _ h9 => h9) rfl hin rfl (by decide +kernel) rfl rfl (Nat.le_of_ble_eq_true rfl) dX3_init_48 (fun H locs c9 oq hS hz9 => ?_)
  clear hz9
  have hI := jv_skip hI h0_a0 oq
  have c_a0 := c9
  clear oq c9
  refine lv_aload_n hx hb dX3_init_51 rfl (lv_at hl 0 rfl) ?_
  refine lv_bipush (v := kz 40) hx hb dX3_init_52 (by decide) ?_
  refine lv_bipush (v := kz 40) hx hb dX3_init_54 (by decide) ?_
  have hzH : n0 ≤ H.size := by have h8 := hS.1; omega
  refine jz_mna (ty := .int) (kd := 27) (N := 40) (M := 40) hx hb hown (hts (.classLink RX3 9 "[[I") (by decide +kernel)) (jN_AO hN).2.2.2.1 (hts (.arrayClass .int) (by decide +kernel)) hK 0 7 rfl rfl (fun h9 => h9) hS (fun q h8 => hA q (by omega)) (by decide) (by decide) (by decide) (by decide) (by decide) (r0 := (40, .inl (fun _ => 0))) rfl rfl rfl (Nat.le_of_ble_eq_true rfl) (Nat.le_of_ble_eq_true rfl) dX3_init_56 (fun x_5 H locs hx9 c_x_5 r9 oq hz9 hS => ?_)
  have hu9 : ∀ q : Nat, x_5 ≤ q → (X.1 q).2.1 = 0 := fun q hq => jv_out hI (by omega)
  have hlt_a0 : a0 < x_5 := by have h9 := c_a0.lt; omega
  have c_a0 := c_a0.kept (oq _ c_a0.lt)
  have hz8 : n0 ≤ x_5 := by rw [hx9]; exact hzH
  have hle9 := jmul_le (X := X) (x := x_5) (N := 40) (222, 27, 40, 234, 40) (234, 20, 40, -2147483648, 2147483647) hu9
  have hI := jv_mul (x := x_5) (N := 40) (t := (222, 27, 40, 234, 40)) (tr := (234, 20, 40, -2147483648, 2147483647)) hI (by omega) (fun q h9 => trivial) (fun q hq => oq q (jv_lt hI hq)) c_x_5 r9 (jq_e27 (fun j hj => ⟨x_5 + 1 + j, if_pos hj, jmul_row X _ _ (by omega)⟩)) (fun q => jz_e20 (by decide))
  have hU := jmul_U (x := x_5) (N := 40) (t := (222, 27, 40, 234, 40)) (tr := (234, 20, 40, -2147483648, 2147483647)) hU (fun _ => hno_222) (by decide)
  have hJ := nw_mul (x := x_5) (N := 40) (t := (222, 27, 40, 234, 40)) (tr := (234, 20, 40, -2147483648, 2147483647)) hJ hu9 hz8 (by simp [Ll]) (by simp [Ll])
  have hno_3 := jmul_no (x := x_5) (N := 40) (t := (222, 27, 40, 234, 40)) (tr := (234, 20, 40, -2147483648, 2147483647)) hno_3 (by decide) (by decide)
  have hno_223 := jmul_no (x := x_5) (N := 40) (t := (222, 27, 40, 234, 40)) (tr := (234, 20, 40, -2147483648, 2147483647)) hno_223 (by decide) (by decide)
  have hno_224 := jmul_no (x := x_5) (N := 40) (t := (222, 27, 40, 234, 40)) (tr := (234, 20, 40, -2147483648, 2147483647)) hno_224 (by decide) (by decide)
  have hno_225 := jmul_no (x := x_5) (N := 40) (t := (222, 27, 40, 234, 40)) (tr := (234, 20, 40, -2147483648, 2147483647)) hno_225 (by decide) (by decide)
  have g_x_5 := jmul_self X x_5 40 (222, 27, 40, 234, 40) (234, 20, 40, -2147483648, 2147483647)
  have h0_a0 : ((jmul X x_5 40 (222, 27, 40, 234, 40) (234, 20, 40, -2147483648, 2147483647)).1 a0).2.1 = 0 := by rw [jmul_ne X _ _ (Or.inl hlt_a0)]; exact h0_a0
  obtain ⟨X, hY9⟩ : ∃ Y9 : jG, Y9 = jmul X x_5 40 (222, 27, 40, 234, 40) (234, 20, 40, -2147483648, 2147483647) := ⟨_, rfl⟩
  rw [← hY9] at hle9 hI hU hJ hno_3 hno_223 hno_224 hno_225 g_x_5 h0_a0
  clear hY9
  have hzH : n0 ≤ H.size := by have h8 := hS.1; omega
  have g_tg := le_t hle9 g_tg (show (30 : Nat) ≠ 0 by decide)
  have g_x_1 := le_t hle9 g_x_1 (show (27 : Nat) ≠ 0 by decide)
  have g_x_2 := le_t hle9 g_x_2 (show (21 : Nat) ≠ 0 by decide)
  have g_x_3 := le_t hle9 g_x_3 (show (23 : Nat) ≠ 0 by decide)
  have g_x_4 := le_t hle9 g_x_4 (show (28 : Nat) ≠ 0 by decide)
  clear hle9 hu9 hz8 oq hz9 hx9 r9
  refine iz_putF (D := (dC, dI)) (ci := 3) (v := .ref x_5) (ty := .array (.array .int)) (C := RX3) (T := TX3) (N := 11) hx hb hts hinX3 tyX3 tyX3_ok nmX3 hown hK c_a0 hS hA0 rfl 6 (by decide) hL33 (fun _ h9 => h9) rfl hin rfl (by decide +kernel) rfl rfl (Nat.le_of_ble_eq_true rfl) dX3_init_60 (fun H locs c9 oq hS hz9 => ?_)
  clear hz9
  have hI := jv_skip hI h0_a0 oq
  have c_a0 := c9
  clear oq c9
  refine lv_aload_n hx hb dX3_init_63 rfl (lv_at hl 0 rfl) ?_
  refine lv_bipush (v := kz 40) hx hb dX3_init_64 (by decide) ?_
  refine lv_sipush (v := kz 144) hx hb dX3_init_66 (by decide) ?_
  have hzH : n0 ≤ H.size := by have h8 := hS.1; omega
  refine jz_mna (ty := .long) (kd := 28) (N := 40) (M := 144) hx hb hown (hts (.classLink RX3 28 "[[J") (by decide +kernel)) (jN_AO hN).2.2.2.2 (hts (.arrayClass .long) (by decide +kernel)) hK 3 8 rfl rfl (fun h9 => h9) hS (fun q h8 => hA q (by omega)) (by decide) (by decide) (by decide) (by decide) (by decide) (r0 := (144, .inr (.inl (fun _ => 0)))) rfl rfl rfl (Nat.le_of_ble_eq_true rfl) (Nat.le_of_ble_eq_true rfl) dX3_init_69 (fun x_6 H locs hx9 c_x_6 r9 oq hz9 hS => ?_)
  have hu9 : ∀ q : Nat, x_6 ≤ q → (X.1 q).2.1 = 0 := fun q hq => jv_out hI (by omega)
  have hlt_a0 : a0 < x_6 := by have h9 := c_a0.lt; omega
  have c_a0 := c_a0.kept (oq _ c_a0.lt)
  have hz8 : n0 ≤ x_6 := by rw [hx9]; exact hzH
  have hle9 := jmul_le (X := X) (x := x_6) (N := 40) (223, 28, 40, 235, 144) (235, 23, 144, 0, 0) hu9
  have hI := jv_mul (x := x_6) (N := 40) (t := (223, 28, 40, 235, 144)) (tr := (235, 23, 144, 0, 0)) hI (by omega) (fun q h9 => trivial) (fun q hq => oq q (jv_lt hI hq)) c_x_6 r9 (jq_e28 (fun j hj => ⟨x_6 + 1 + j, if_pos hj, jmul_row X _ _ (by omega)⟩)) (fun q => jz_e23)
  have hU := jmul_U (x := x_6) (N := 40) (t := (223, 28, 40, 235, 144)) (tr := (235, 23, 144, 0, 0)) hU (fun _ => hno_223) (by decide)
  have hJ := nw_mul (x := x_6) (N := 40) (t := (223, 28, 40, 235, 144)) (tr := (235, 23, 144, 0, 0)) hJ hu9 hz8 (by simp [Ll]) (by simp [Ll])
  have hno_3 := jmul_no (x := x_6) (N := 40) (t := (223, 28, 40, 235, 144)) (tr := (235, 23, 144, 0, 0)) hno_3 (by decide) (by decide)
  have hno_224 := jmul_no (x := x_6) (N := 40) (t := (223, 28, 40, 235, 144)) (tr := (235, 23, 144, 0, 0)) hno_224 (by decide) (by decide)
  have hno_225 := jmul_no (x := x_6) (N := 40) (t := (223, 28, 40, 235, 144)) (tr := (235, 23, 144, 0, 0)) hno_225 (by decide) (by decide)
  have g_x_6 := jmul_self X x_6 40 (223, 28, 40, 235, 144) (235, 23, 144, 0, 0)
  have h0_a0 : ((jmul X x_6 40 (223, 28, 40, 235, 144) (235, 23, 144, 0, 0)).1 a0).2.1 = 0 := by rw [jmul_ne X _ _ (Or.inl hlt_a0)]; exact h0_a0
  obtain ⟨X, hY9⟩ : ∃ Y9 : jG, Y9 = jmul X x_6 40 (223, 28, 40, 235, 144) (235, 23, 144, 0, 0) := ⟨_, rfl⟩
  rw [← hY9] at hle9 hI hU hJ hno_3 hno_224 hno_225 g_x_6 h0_a0
  clear hY9
  have hzH : n0 ≤ H.size := by have h8 := hS.1; omega
  have g_tg := le_t hle9 g_tg (show (30 : Nat) ≠ 0 by decide)
  have g_x_1 := le_t hle9 g_x_1 (show (27 : Nat) ≠ 0 by decide)
  have g_x_2 := le_t hle9 g_x_2 (show (21 : Nat) ≠ 0 by decide)
  have g_x_3 := le_t hle9 g_x_3 (show (23 : Nat) ≠ 0 by decide)
  have g_x_4 := le_t hle9 g_x_4 (show (28 : Nat) ≠ 0 by decide)
  have g_x_5 := le_t hle9 g_x_5 (show (27 : Nat) ≠ 0 by decide)
  clear hle9 hu9 hz8 oq hz9 hx9 r9
  refine iz_putF (D := (dC, dI)) (ci := 3) (v := .ref x_6) (ty := .array (.array .long)) (C := RX3) (T := TX3) (N := 11) hx hb hts hinX3 tyX3 tyX3_ok nmX3 hown hK c_a0 hS hA0 rfl 7 (by decide) hL36 (fun _ h9 => h9) rfl hin rfl (by decide +kernel) rfl rfl (Nat.le_of_ble_eq_true rfl) dX3_init_73 (fun H locs c9 oq hS hz9 => ?_)
  clear hz9
  have hI := jv_skip hI h0_a0 oq
  have c_a0 := c9
  clear oq c9
  refine lv_aload_n hx hb dX3_init_76 rfl (lv_at hl 0 rfl) ?_
  refine lv_bipush (v := kz 40) hx hb dX3_init_77 (by decide) ?_
  refine lv_sipush (v := kz 144) hx hb dX3_init_79 (by decide) ?_
  have hzH : n0 ≤ H.size := by have h8 := hS.1; omega
  refine jz_mna (ty := .int) (kd := 27) (N := 40) (M := 144) hx hb hown (hts (.classLink RX3 9 "[[I") (by decide +kernel)) (jN_AO hN).2.2.2.1 (hts (.arrayClass .int) (by decide +kernel)) hK 0 7 rfl rfl (fun h9 => h9) hS (fun q h8 => hA q (by omega)) (by decide) (by decide) (by decide) (by decide) (by decide) (r0 := (144, .inl (fun _ => 0))) rfl rfl rfl (Nat.le_of_ble_eq_true rfl) (Nat.le_of_ble_eq_true rfl) dX3_init_82 (fun x_7 H locs hx9 c_x_7 r9 oq hz9 hS => ?_)
  have hu9 : ∀ q : Nat, x_7 ≤ q → (X.1 q).2.1 = 0 := fun q hq => jv_out hI (by omega)
  have hlt_a0 : a0 < x_7 := by have h9 := c_a0.lt; omega
  have c_a0 := c_a0.kept (oq _ c_a0.lt)
  have hz8 : n0 ≤ x_7 := by rw [hx9]; exact hzH
  have hle9 := jmul_le (X := X) (x := x_7) (N := 40) (224, 27, 40, 236, 144) (236, 20, 144, -2147483648, 2147483647) hu9
  have hI := jv_mul (x := x_7) (N := 40) (t := (224, 27, 40, 236, 144)) (tr := (236, 20, 144, -2147483648, 2147483647)) hI (by omega) (fun q h9 => trivial) (fun q hq => oq q (jv_lt hI hq)) c_x_7 r9 (jq_e27 (fun j hj => ⟨x_7 + 1 + j, if_pos hj, jmul_row X _ _ (by omega)⟩)) (fun q => jz_e20 (by decide))
  have hU := jmul_U (x := x_7) (N := 40) (t := (224, 27, 40, 236, 144)) (tr := (236, 20, 144, -2147483648, 2147483647)) hU (fun _ => hno_224) (by decide)
  have hJ := nw_mul (x := x_7) (N := 40) (t := (224, 27, 40, 236, 144)) (tr := (236, 20, 144, -2147483648, 2147483647)) hJ hu9 hz8 (by simp [Ll]) (by simp [Ll])
  have hno_3 := jmul_no (x := x_7) (N := 40) (t := (224, 27, 40, 236, 144)) (tr := (236, 20, 144, -2147483648, 2147483647)) hno_3 (by decide) (by decide)
  have hno_225 := jmul_no (x := x_7) (N := 40) (t := (224, 27, 40, 236, 144)) (tr := (236, 20, 144, -2147483648, 2147483647)) hno_225 (by decide) (by decide)
  have g_x_7 := jmul_self X x_7 40 (224, 27, 40, 236, 144) (236, 20, 144, -2147483648, 2147483647)
  have h0_a0 : ((jmul X x_7 40 (224, 27, 40, 236, 144) (236, 20, 144, -2147483648, 2147483647)).1 a0).2.1 = 0 := by rw [jmul_ne X _ _ (Or.inl hlt_a0)]; exact h0_a0
  obtain ⟨X, hY9⟩ : ∃ Y9 : jG, Y9 = jmul X x_7 40 (224, 27, 40, 236, 144) (236, 20, 144, -2147483648, 2147483647) := ⟨_, rfl⟩
  rw [← hY9] at hle9 hI hU hJ hno_3 hno_225 g_x_7 h0_a0
  clear hY9
  have hzH : n0 ≤ H.size := by have h8 := hS.1; omega
  have g_tg := le_t hle9 g_tg (show (30 : Nat) ≠ 0 by decide)
  have g_x_1 := le_t hle9 g_x_1 (show (27 : Nat) ≠ 0 by decide)
  have g_x_2 := le_t hle9 g_x_2 (show (21 : Nat) ≠ 0 by decide)
  have g_x_3 := le_t hle9 g_x_3 (show (23 : Nat) ≠ 0 by decide)
  have g_x_4 := le_t hle9 g_x_4 (show (28 : Nat) ≠ 0 by decide)
  have g_x_5 := le_t hle9 g_x_5 (show (27 : Nat) ≠ 0 by decide)
  have g_x_6 := le_t hle9 g_x_6 (show (28 : Nat) ≠ 0 by decide)
  clear hle9 hu9 hz8 oq hz9 hx9 r9
  refine iz_putF (D := (dC, dI)) (ci := 3) (v := .ref x_7) (ty := .array (.array .int)) (C := RX3) (T := TX3) (N := 11) hx hb hts hinX3 tyX3 tyX3_ok nmX3 hown hK c_a0 hS hA0 rfl 8 (by decide) hL39 (fun _ h9 => h9) rfl hin rfl (by decide +kernel) rfl rfl (Nat.le_of_ble_eq_true rfl) dX3_init_86 (fun H locs c9 oq hS hz9 => ?_)
  clear hz9
  have hI := jv_skip hI h0_a0 oq
  have c_a0 := c9
  clear oq c9
  refine lv_aload_n hx hb dX3_init_89 rfl (lv_at hl 0 rfl) ?_
  refine lv_iconst (v := kz 0) hx hb dX3_init_90 rfl ?_
  refine iz_put (D := (dC, dI)) (ci := 3) (v := .int (kz 0)) (ty := .int) (C := RX3) (T := TX3) (N := 11) hx hb hts hinX3 tyX3 tyX3_ok nmX3 hown hK c_a0 hS hA0 rfl 9 (by decide) hL42 (fun _ h9 => h9) rfl (by decide +kernel) rfl rfl (Nat.le_of_ble_eq_true rfl) dX3_init_91 (fun H locs c9 oq hS => ?_)
  have hI := jv_skip hI h0_a0 oq
  have c_a0 := c9
  clear oq c9
  refine lv_aload_n hx hb dX3_init_94 rfl (lv_at hl 0 rfl) ?_
  refine lv_bipush (v := kz 36) hx hb dX3_init_95 (by decide) ?_
  have hzH : n0 ≤ H.size := by have h8 := hS.1; omega
  refine jz_newa (atype := .boolean) (ty := .boolean) (N := 36) hx hb (hts (.arrayClass .boolean) (by decide +kernel)) rfl hK 2 rfl hS (a0 := (36, .inl (fun _ => 0))) rfl (by decide) (by decide) (Nat.le_of_ble_eq_true rfl) (Nat.le_of_ble_eq_true rfl) dX3_init_97 (fun x_8 H hx9 c_x_8 oq hz9 hS => ?_)
  have h0_x_8 : (X.1 x_8).2.1 = 0 := jv_out hI (by omega)
  have hge_x_8 : n0 ≤ x_8 := by omega
  have hne_x_8_a0 : x_8 ≠ a0 := by have h9 := c_a0.lt; omega
  have c_a0 := c_a0.kept (oq _ c_a0.lt)
  have hI := jv_keep hI (fun q hq => oq q (jv_lt hI hq))
  clear oq hz9 hx9
  have hle9 := jset_le (X := X) (x := x_8) (225, 22, 36, 0, 0) 0 h0_x_8
  have hI := jv_new1 (t := (225, 22, 36, 0, 0)) (n := 0) hI h0_x_8 trivial (fun q _ => rfl) c_x_8 (jz_e22)
  have hU := jset_U (x := x_8) (t := (225, 22, 36, 0, 0)) 0 hU h0_x_8 (fun _ => hno_225)
  have hJ := nw_set (x := x_8) (t := (225, 22, 36, 0, 0)) 0 hJ h0_x_8 (Or.inr hge_x_8) (by simp [Ll])
  have hno_3 := jset_no (x := x_8) (t := (225, 22, 36, 0, 0)) 0 hno_3 (by decide)
  have g_x_8 := jset_self X x_8 (225, 22, 36, 0, 0) 0
  have gn_x_8 := jset_n X x_8 (225, 22, 36, 0, 0) 0
  have h0_a0 : ((jset X x_8 (225, 22, 36, 0, 0) 0).1 a0).2.1 = 0 := by rw [jset_ne X _ _ (Ne.symm hne_x_8_a0)]; exact h0_a0
  obtain ⟨X, hY9⟩ : ∃ Y9 : jG, Y9 = jset X x_8 (225, 22, 36, 0, 0) 0 := ⟨_, rfl⟩
  rw [← hY9] at hle9 hI hU hJ hno_3 g_x_8 gn_x_8 h0_a0
  clear hY9
  have g_tg := le_t hle9 g_tg (show (30 : Nat) ≠ 0 by decide)
  have g_x_1 := le_t hle9 g_x_1 (show (27 : Nat) ≠ 0 by decide)
  have g_x_2 := le_t hle9 g_x_2 (show (21 : Nat) ≠ 0 by decide)
  have g_x_3 := le_t hle9 g_x_3 (show (23 : Nat) ≠ 0 by decide)
  have g_x_4 := le_t hle9 g_x_4 (show (28 : Nat) ≠ 0 by decide)
  have g_x_5 := le_t hle9 g_x_5 (show (27 : Nat) ≠ 0 by decide)
  have g_x_6 := le_t hle9 g_x_6 (show (28 : Nat) ≠ 0 by decide)
  have g_x_7 := le_t hle9 g_x_7 (show (27 : Nat) ≠ 0 by decide)
  clear hle9
  refine iz_putF (D := (dC, dI)) (ci := 3) (v := .ref x_8) (ty := .array .boolean) (C := RX3) (T := TX3) (N := 11) hx hb hts hinX3 tyX3 tyX3_ok nmX3 hown hK c_a0 hS hA0 rfl 10 (by decide) hL45 (fun _ h9 => h9) rfl hin rfl (by decide +kernel) rfl rfl (Nat.le_of_ble_eq_true rfl) dX3_init_99 (fun H locs c9 oq hS hz9 => ?_)
  clear hz9
  have hI := jv_skip hI h0_a0 oq
  have c_a0 := c9
  clear oq c9
  refine lv_aload_n hx hb dX3_init_102 rfl (lv_at hl 0 rfl) ?_
  refine lv_aload_n hx hb dX3_init_103 rfl (lv_at hl 1 rfl) ?_
  refine iz_putF (D := (dC, dI)) (ci := 3) (v := .ref tg) (ty := .object "JoinBench$Tongue") (C := RX3) (T := TX3) (N := 11) hx hb hts hinX3 tyX3 tyX3_ok nmX3 hown hK c_a0 hS hA0 rfl 2 (by decide) hL49 (fun _ h9 => h9) rfl hin rfl (by decide +kernel) rfl rfl (Nat.le_of_ble_eq_true rfl) dX3_init_104 (fun H locs c9 oq hS hz9 => ?_)
  clear hz9
  have hI := jv_skip hI h0_a0 oq
  have c_a0 := c9
  clear oq c9
  have hleE := jset_le (X := X) (x := a0) (3, 30, 0, 0, 0) 0 h0_a0
  have hle9 := jset_le (X := X) (x := a0) (3, 30, 0, 0, 0) 0 h0_a0
  have hI := jv_new1 (t := (3, 30, 0, 0, 0)) (n := 0) hI h0_a0 trivial (fun q _ => rfl) c_a0 (jv_c3 ⟨x_1, 0, tg, x_2, x_3, x_4, x_5, x_6, x_7, 0, x_8, rfl, le_t hleE g_x_1 (show (27 : Nat) ≠ 0 by decide), ⟨by omega, by omega⟩, le_t hleE g_tg (show (30 : Nat) ≠ 0 by decide), le_t hleE g_x_2 (show (21 : Nat) ≠ 0 by decide), le_t hleE g_x_3 (show (23 : Nat) ≠ 0 by decide), le_t hleE g_x_4 (show (28 : Nat) ≠ 0 by decide), le_t hleE g_x_5 (show (27 : Nat) ≠ 0 by decide), le_t hleE g_x_6 (show (28 : Nat) ≠ 0 by decide), le_t hleE g_x_7 (show (27 : Nat) ≠ 0 by decide), ⟨by omega, by omega⟩, le_t hleE g_x_8 (show (22 : Nat) ≠ 0 by decide)⟩)
  have hU := jset_U (x := a0) (t := (3, 30, 0, 0, 0)) 0 hU h0_a0 (fun _ => hno_3)
  have hJ := nw_set (x := a0) (t := (3, 30, 0, 0, 0)) 0 hJ h0_a0 (Or.inl rfl) (by simp [Ll])
  have g_a0 := jset_self X a0 (3, 30, 0, 0, 0) 0
  have gn_a0 := jset_n X a0 (3, 30, 0, 0, 0) 0
  obtain ⟨X, hY9⟩ : ∃ Y9 : jG, Y9 = jset X a0 (3, 30, 0, 0, 0) 0 := ⟨_, rfl⟩
  rw [← hY9] at hle9 hI hU hJ g_a0 gn_a0
  clear hY9
  have g_tg := le_t hle9 g_tg (show (30 : Nat) ≠ 0 by decide)
  clear hle9
  exact W.vret hx hb hr (fun t9 ht hW => ⟨⟨X, rfl, ⟨hJ, g_a0, hU⟩, jK_warm hW ⟨hK, hN⟩, by rw [ht]; exact hI⟩, hS.F ht⟩) hS.2.2 dX3_init_107
def Lt8 : List kTy := [(8, 30, 0, 0, 0), (200, 21, 60, 0, 0)]
def Lt9 : List kTy := [(9, 30, 0, 0, 0), (212, 24, 40, 2, 0), (213, 29, 24, 7, 0), (214, 22, 36, 0, 0)]
def Lt6 : List kTy := [(6, 30, 0, 0, 0), (203, 21, 480, 0, 0), (0, 30, (16 : Nat), 0, 0), (210, 24, 40, 2, ((16 : Nat) : Int)), (211, 25, 40, 7, ((16 : Nat) : Int))]
def Lt10 : List kTy := [(10, 30, 0, 0, 0), (229, 20, 36, -1, 5)]
def Lt1 : List kTy := [(1, 30, 0, 0, 0), (215, 20, 20, -2147483648, 2147483647), (216, 27, 30, 230, 40), (217, 27, 30, 231, 20), (218, 20, 30, 0, 40), (230, 20, 40, -2147483648, 2147483647), (231, 20, 20, -2147483648, 2147483647)]
def Ljb : List kTy := Lt8 ++ Lt9 ++ Lt6 ++ Lt10 ++ Lt1
set_option maxHeartbeats 4000000 in
set_option maxRecDepth 100000 in
/-- X8_init -/
theorem k_Tape (l : Launch) (dC : Nat → ClassId) (dI : Nat → Nat → Nat) (ca : Nat → ClassId) (X : jG) (hU : jU X) (a0 n0 : Nat) (h0_a0 : (X.1 a0).2.1 = 0) (hno_8 : ∀ q : Nat, X.1 q ≠ (8, 30, 0, 0, 0)) (hno_200 : ∀ q : Nat, X.1 q ≠ (200, 21, 60, 0, 0)) : Met l yX8_init wsX8_init ({ frames := 1, cells := 1, slots := 60, locals := 12 }) (va_Pc [.ref a0] (fun U => U.heap.size = n0 ∧ jK (dC, dI) ca U ∧ jv (dC, dI) ca (fun _ => True) X U.heap ∧ va_at (dC, dI) vwCl (a0, .inr (8, [.null, .int (kz 0)])) U.heap)) (va_Qv (fun (u : jG) => jnw X u a0 n0 (8, 30, 0, 0, 0) Lt8) (fun u U => jK (dC, dI) ca U ∧ jv (dC, dI) ca (fun _ => True) u U.heap) (jA a0 n0)) 1 60 (jA a0 n0) := by
  refine Met.ofW (cc := cX8_init) (maxL := 1) (ret := none) (by decide) rfl ?_
  intro p e s m args below meth c s₁ B hml hv
  obtain ⟨rfl, hsz, ⟨hK, hN⟩, hI, c_a0⟩ := hv
  have hx := B.exec
  have hb := B.bytes
  have hr := B.returns
  have hts := atoms_spec (ws := wsX8_init) B.pre
  have hown : s.vm.findClass RX8 = some m.cls := findClass_of_methodNamed B.named
  have hin : meth.name = "<init>" := (name_of_methodNamed B.named B.method).1
  have hL9 := hts (.fieldLink RX8 9 "JoinBench$Tape" "bytes" "[B") (by decide +kernel)
  have hL15 := hts (.fieldLink RX8 15 "JoinBench$Tape" "size" "I") (by decide +kernel)
  have hinX8 : ∀ w ∈ u_ws RX8 TX8 2, w ∈ wsX8_init := by decide +kernel
  have hJ := nw_rf X a0 n0 Lt8
  generalize hAe : jA a0 n0 = A
  have hA : ∀ q : Nat, n0 ≤ q → A q := fun q h => by rw [← hAe]; exact Or.inr h
  have hA0 : A a0 := by rw [← hAe]; exact Or.inl rfl
  obtain ⟨H, hH⟩ : ∃ H : Heap, H = s.heap := ⟨_, rfl⟩
  have hS : va_S A s.heap H [] := by rw [hH]; exact va_S.rf
  have hzH : n0 ≤ H.size := by have h8 := hS.1; omega
  rw [← hH] at hI c_a0 ⊢
  clear hH
  have hl := lv_entry ([.ref a0]) (n := 1) (Nat.le_of_ble_eq_true rfl)
  rw [lg_entry_eq]
  generalize (lg_sl ([.ref a0]) ++ List.replicate (1 - (lg_sl ([.ref a0])).length) Slot.unset).toArray = ls at hl ⊢
  have hl : lv_has ls 1 [(0, .ref a0)] := hl
  refine lv_aload_n hx hb dX8_init_0 rfl (lv_at hl 0 rfl) ?_
  refine W.objInit hx hb hown (hts (.methodLink RX8 3 objectInit) (by decide +kernel)) (hts (.instanceMethod objectInit) (by decide +kernel)) (hts _ (List.mem_of_getElem? (i := 3) rfl)) rfl (by rw [hml]; exact hl.1) rfl dX8_init_1 (Nat.le_of_ble_eq_true rfl) (Nat.le_of_ble_eq_true rfl) ?_
  refine lv_aload_n hx hb dX8_init_4 rfl (lv_at hl 0 rfl) ?_
  refine lv_bipush (v := kz 60) hx hb dX8_init_5 (by decide) ?_
  have hzH : n0 ≤ H.size := by have h8 := hS.1; omega
  refine jz_newa (atype := .byte) (ty := .byte) (N := 60) hx hb (hts (.arrayClass .byte) (by decide +kernel)) rfl hK 1 rfl hS (a0 := (60, .inl (fun _ => 0))) rfl (by decide) (by decide) (Nat.le_of_ble_eq_true rfl) (Nat.le_of_ble_eq_true rfl) dX8_init_7 (fun x_1 H hx9 c_x_1 oq hz9 hS => ?_)
  have h0_x_1 : (X.1 x_1).2.1 = 0 := jv_out hI (by omega)
  have hge_x_1 : n0 ≤ x_1 := by omega
  have hne_x_1_a0 : x_1 ≠ a0 := by have h9 := c_a0.lt; omega
  have c_a0 := c_a0.kept (oq _ c_a0.lt)
  have hI := jv_keep hI (fun q hq => oq q (jv_lt hI hq))
  clear oq hz9 hx9
  have hle9 := jset_le (X := X) (x := x_1) (200, 21, 60, 0, 0) 0 h0_x_1
  have hI := jv_new1 (t := (200, 21, 60, 0, 0)) (n := 0) hI h0_x_1 trivial (fun q _ => rfl) c_x_1 (jz_e200)
  have hU := jset_U (x := x_1) (t := (200, 21, 60, 0, 0)) 0 hU h0_x_1 (fun _ => hno_200)
  have hJ := nw_set (x := x_1) (t := (200, 21, 60, 0, 0)) 0 hJ h0_x_1 (Or.inr hge_x_1) (by simp [Lt8])
  have hno_8 := jset_no (x := x_1) (t := (200, 21, 60, 0, 0)) 0 hno_8 (by decide)
  have g_x_1 := jset_self X x_1 (200, 21, 60, 0, 0) 0
  have gn_x_1 := jset_n X x_1 (200, 21, 60, 0, 0) 0
  have h0_a0 : ((jset X x_1 (200, 21, 60, 0, 0) 0).1 a0).2.1 = 0 := by rw [jset_ne X _ _ (Ne.symm hne_x_1_a0)]; exact h0_a0
  obtain ⟨X, hY9⟩ : ∃ Y9 : jG, Y9 = jset X x_1 (200, 21, 60, 0, 0) 0 := ⟨_, rfl⟩
  rw [← hY9] at hle9 hI hU hJ hno_8 g_x_1 gn_x_1 h0_a0
  clear hY9
  clear hle9
  refine iz_putF (D := (dC, dI)) (ci := 8) (v := .ref x_1) (ty := .array .byte) (C := RX8) (T := TX8) (N := 2) hx hb hts hinX8 tyX8 tyX8_ok nmX8 hown hK c_a0 hS hA0 rfl 0 (by decide) hL9 (fun _ h9 => h9) rfl hin rfl (by decide +kernel) rfl rfl (Nat.le_of_ble_eq_true rfl) dX8_init_9 (fun H locs c9 oq hS hz9 => ?_)
  clear hz9
  have hI := jv_skip hI h0_a0 oq
  have c_a0 := c9
  clear oq c9
  refine lv_aload_n hx hb dX8_init_12 rfl (lv_at hl 0 rfl) ?_
  refine lv_iconst (v := kz 0) hx hb dX8_init_13 rfl ?_
  refine iz_put (D := (dC, dI)) (ci := 8) (v := .int (kz 0)) (ty := .int) (C := RX8) (T := TX8) (N := 2) hx hb hts hinX8 tyX8 tyX8_ok nmX8 hown hK c_a0 hS hA0 rfl 1 (by decide) hL15 (fun _ h9 => h9) rfl (by decide +kernel) rfl rfl (Nat.le_of_ble_eq_true rfl) dX8_init_14 (fun H locs c9 oq hS => ?_)
  have hI := jv_skip hI h0_a0 oq
  have c_a0 := c9
  clear oq c9
  have hleE := jset_le (X := X) (x := a0) (8, 30, 0, 0, 0) 0 h0_a0
  have hle9 := jset_le (X := X) (x := a0) (8, 30, 0, 0, 0) 0 h0_a0
  have hI := jv_new1 (t := (8, 30, 0, 0, 0)) (n := 0) hI h0_a0 trivial (fun q _ => rfl) c_a0 (jv_c8 ⟨x_1, 0, rfl, le_t hleE g_x_1 (show (21 : Nat) ≠ 0 by decide), ⟨by omega, by omega⟩⟩)
  have hU := jset_U (x := a0) (t := (8, 30, 0, 0, 0)) 0 hU h0_a0 (fun _ => hno_8)
  have hJ := nw_set (x := a0) (t := (8, 30, 0, 0, 0)) 0 hJ h0_a0 (Or.inl rfl) (by simp [Lt8])
  have g_a0 := jset_self X a0 (8, 30, 0, 0, 0) 0
  have gn_a0 := jset_n X a0 (8, 30, 0, 0, 0) 0
  obtain ⟨X, hY9⟩ : ∃ Y9 : jG, Y9 = jset X a0 (8, 30, 0, 0, 0) 0 := ⟨_, rfl⟩
  rw [← hY9] at hle9 hI hU hJ g_a0 gn_a0
  clear hY9
  clear hle9
  exact W.vret hx hb hr (fun t9 ht hW => ⟨⟨X, rfl, ⟨hJ, g_a0, hU⟩, jK_warm hW ⟨hK, hN⟩, by rw [ht]; exact hI⟩, hS.F ht⟩) hS.2.2 dX8_init_17
set_option maxHeartbeats 4000000 in
set_option maxRecDepth 100000 in
/-- X9_init -/
theorem k_Tongue (l : Launch) (dC : Nat → ClassId) (dI : Nat → Nat → Nat) (ca : Nat → ClassId) (X : jG) (hU : jU X) (a0 n0 : Nat) (h0_a0 : (X.1 a0).2.1 = 0) (hr0 : X.2.2.2 = 0) (hno_9 : ∀ q : Nat, X.1 q ≠ (9, 30, 0, 0, 0)) (hno_212 : ∀ q : Nat, X.1 q ≠ (212, 24, 40, 2, 0)) (hno_213 : ∀ q : Nat, X.1 q ≠ (213, 29, 24, 7, 0)) (hno_214 : ∀ q : Nat, X.1 q ≠ (214, 22, 36, 0, 0)) : Met l yX9_init wsX9_init ({ frames := 1, cells := 3, slots := 100, locals := 12 }) (va_Pc [.ref a0] (fun U => U.heap.size = n0 ∧ jK (dC, dI) ca U ∧ jv (dC, dI) ca (fun _ => True) X U.heap ∧ va_at (dC, dI) vwCl (a0, .inr (9, [.null, .null, .int (kz 0), .int (kz 0), .null])) U.heap)) (va_Qv (fun (u : jG) => jnw X u a0 n0 (9, 30, 0, 0, 0) Lt9) (fun u U => jK (dC, dI) ca U ∧ jv (dC, dI) ca (fun _ => True) u U.heap) (jA a0 n0)) 3 100 (jA a0 n0) := by
  refine Met.ofW (cc := cX9_init) (maxL := 1) (ret := none) (by decide) rfl ?_
  intro p e s m args below meth c s₁ B hml hv
  obtain ⟨rfl, hsz, ⟨hK, hN⟩, hI, c_a0⟩ := hv
  have hx := B.exec
  have hb := B.bytes
  have hr := B.returns
  have hts := atoms_spec (ws := wsX9_init) B.pre
  have hown : s.vm.findClass RX9 = some m.cls := findClass_of_methodNamed B.named
  have hin : meth.name = "<init>" := (name_of_methodNamed B.named B.method).1
  have hL11 := hts (.fieldLink RX9 11 "JoinBench$Tongue" "forms" "[LJoinBench$Form;") (by decide +kernel)
  have hL19 := hts (.fieldLink RX9 19 "JoinBench$Tongue" "rules" "[LJoinBench$Rule;") (by decide +kernel)
  have hL23 := hts (.fieldLink RX9 23 "JoinBench$Tongue" "formCount" "I") (by decide +kernel)
  have hL27 := hts (.fieldLink RX9 27 "JoinBench$Tongue" "ruleCount" "I") (by decide +kernel)
  have hL30 := hts (.fieldLink RX9 30 "JoinBench$Tongue" "forbidden" "[Z") (by decide +kernel)
  have hinX9 : ∀ w ∈ u_ws RX9 TX9 5, w ∈ wsX9_init := by decide +kernel
  have hJ := nw_rf X a0 n0 Lt9
  generalize hAe : jA a0 n0 = A
  have hA : ∀ q : Nat, n0 ≤ q → A q := fun q h => by rw [← hAe]; exact Or.inr h
  have hA0 : A a0 := by rw [← hAe]; exact Or.inl rfl
  obtain ⟨H, hH⟩ : ∃ H : Heap, H = s.heap := ⟨_, rfl⟩
  have hS : va_S A s.heap H [] := by rw [hH]; exact va_S.rf
  have hzH : n0 ≤ H.size := by have h8 := hS.1; omega
  rw [← hH] at hI c_a0 ⊢
  clear hH
  have hl := lv_entry ([.ref a0]) (n := 1) (Nat.le_of_ble_eq_true rfl)
  rw [lg_entry_eq]
  generalize (lg_sl ([.ref a0]) ++ List.replicate (1 - (lg_sl ([.ref a0])).length) Slot.unset).toArray = ls at hl ⊢
  have hl : lv_has ls 1 [(0, .ref a0)] := hl
  refine lv_aload_n hx hb dX9_init_0 rfl (lv_at hl 0 rfl) ?_
  refine W.objInit hx hb hown (hts (.methodLink RX9 3 objectInit) (by decide +kernel)) (hts (.instanceMethod objectInit) (by decide +kernel)) (hts _ (List.mem_of_getElem? (i := 3) rfl)) rfl (by rw [hml]; exact hl.1) rfl dX9_init_1 (Nat.le_of_ble_eq_true rfl) (Nat.le_of_ble_eq_true rfl) ?_
  refine lv_aload_n hx hb dX9_init_4 rfl (lv_at hl 0 rfl) ?_
  refine lv_bipush (v := kz 40) hx hb dX9_init_5 (by decide) ?_
  have hzH : n0 ≤ H.size := by have h8 := hS.1; omega
  refine jz_newq (own := RX9) (C := RX2) (kd := 24) (N := 40) hx hb hown (hts (.classLink RX9 9 RX2) (by decide +kernel)) (jN_AO hN).1 hK 4 rfl hS (by decide) (by decide) (Nat.le_of_ble_eq_true rfl) (Nat.le_of_ble_eq_true rfl) dX9_init_7 (fun x_1 H hx9 c_x_1 oq hz9 hS => ?_)
  have h0_x_1 : (X.1 x_1).2.1 = 0 := jv_out hI (by omega)
  have hge_x_1 : n0 ≤ x_1 := by omega
  have hne_x_1_a0 : x_1 ≠ a0 := by have h9 := c_a0.lt; omega
  have c_a0 := c_a0.kept (oq _ c_a0.lt)
  have hI := jv_keep hI (fun q hq => oq q (jv_lt hI hq))
  clear oq hz9 hx9
  have hle9 := jset_le (X := X) (x := x_1) (212, 24, 40, 2, 0) 0 h0_x_1
  have hI := jv_new1 (t := (212, 24, 40, 2, 0)) (n := 0) hI h0_x_1 trivial (fun q _ => rfl) c_x_1 (jq_e24 (fun j hj => ⟨fun b hb => (by cases hb), fun h9 => absurd h9 (by rw [jset_n]; omega)⟩))
  have hU := jset_U (x := x_1) (t := (212, 24, 40, 2, 0)) 0 hU h0_x_1 (fun _ => hno_212)
  have hJ := nw_set (x := x_1) (t := (212, 24, 40, 2, 0)) 0 hJ h0_x_1 (Or.inr hge_x_1) (by simp [Lt9])
  have hno_9 := jset_no (x := x_1) (t := (212, 24, 40, 2, 0)) 0 hno_9 (by decide)
  have hno_213 := jset_no (x := x_1) (t := (212, 24, 40, 2, 0)) 0 hno_213 (by decide)
  have hno_214 := jset_no (x := x_1) (t := (212, 24, 40, 2, 0)) 0 hno_214 (by decide)
  have g_x_1 := jset_self X x_1 (212, 24, 40, 2, 0) 0
  have gn_x_1 := jset_n X x_1 (212, 24, 40, 2, 0) 0
  have h0_a0 : ((jset X x_1 (212, 24, 40, 2, 0) 0).1 a0).2.1 = 0 := by rw [jset_ne X _ _ (Ne.symm hne_x_1_a0)]; exact h0_a0
  obtain ⟨X, hY9⟩ : ∃ Y9 : jG, Y9 = jset X x_1 (212, 24, 40, 2, 0) 0 := ⟨_, rfl⟩
  rw [← hY9] at hle9 hI hU hJ hno_9 hno_213 hno_214 g_x_1 gn_x_1 h0_a0
  clear hY9
  have hr0 : X.2.2.2 = 0 := by rw [hle9.2]; exact hr0
  clear hle9
  refine iz_putF (D := (dC, dI)) (ci := 9) (v := .ref x_1) (ty := .array (.object "JoinBench$Form")) (C := RX9) (T := TX9) (N := 5) hx hb hts hinX9 tyX9 tyX9_ok nmX9 hown hK c_a0 hS hA0 rfl 0 (by decide) hL11 (fun _ h9 => h9) rfl hin rfl (by decide +kernel) rfl rfl (Nat.le_of_ble_eq_true rfl) dX9_init_10 (fun H locs c9 oq hS hz9 => ?_)
  clear hz9
  have hI := jv_skip hI h0_a0 oq
  have c_a0 := c9
  clear oq c9
  refine lv_aload_n hx hb dX9_init_13 rfl (lv_at hl 0 rfl) ?_
  refine lv_bipush (v := kz 24) hx hb dX9_init_14 (by decide) ?_
  have hzH : n0 ≤ H.size := by have h8 := hS.1; omega
  refine jz_newq (own := RX9) (C := RX7) (kd := 25) (N := 24) hx hb hown (hts (.classLink RX9 17 RX7) (by decide +kernel)) (jN_AO hN).2.1 hK 5 rfl hS (by decide) (by decide) (Nat.le_of_ble_eq_true rfl) (Nat.le_of_ble_eq_true rfl) dX9_init_16 (fun x_2 H hx9 c_x_2 oq hz9 hS => ?_)
  have h0_x_2 : (X.1 x_2).2.1 = 0 := jv_out hI (by omega)
  have hge_x_2 : n0 ≤ x_2 := by omega
  have hne_x_2_a0 : x_2 ≠ a0 := by have h9 := c_a0.lt; omega
  have c_a0 := c_a0.kept (oq _ c_a0.lt)
  have hI := jv_keep hI (fun q hq => oq q (jv_lt hI hq))
  clear oq hz9 hx9
  have hle9 := jset_le (X := X) (x := x_2) (213, 29, 24, 7, 0) 0 h0_x_2
  have hI := jv_new1 (t := (213, 29, 24, 7, 0)) (n := 0) hI h0_x_2 trivial (fun q _ => rfl) c_x_2 (jq_e29 (fun j hj => ⟨fun b hb => (by cases hb), fun h9 => absurd h9 (by rw [jset_n]; omega)⟩))
  have hU := jset_U (x := x_2) (t := (213, 29, 24, 7, 0)) 0 hU h0_x_2 (fun _ => hno_213)
  have hJ := nw_set (x := x_2) (t := (213, 29, 24, 7, 0)) 0 hJ h0_x_2 (Or.inr hge_x_2) (by simp [Lt9])
  have hno_9 := jset_no (x := x_2) (t := (213, 29, 24, 7, 0)) 0 hno_9 (by decide)
  have hno_214 := jset_no (x := x_2) (t := (213, 29, 24, 7, 0)) 0 hno_214 (by decide)
  have g_x_2 := jset_self X x_2 (213, 29, 24, 7, 0) 0
  have gn_x_2 := jset_n X x_2 (213, 29, 24, 7, 0) 0
  have h0_a0 : ((jset X x_2 (213, 29, 24, 7, 0) 0).1 a0).2.1 = 0 := by rw [jset_ne X _ _ (Ne.symm hne_x_2_a0)]; exact h0_a0
  obtain ⟨X, hY9⟩ : ∃ Y9 : jG, Y9 = jset X x_2 (213, 29, 24, 7, 0) 0 := ⟨_, rfl⟩
  rw [← hY9] at hle9 hI hU hJ hno_9 hno_214 g_x_2 gn_x_2 h0_a0
  clear hY9
  have g_x_1 := le_t hle9 g_x_1 (show (24 : Nat) ≠ 0 by decide)
  have hr0 : X.2.2.2 = 0 := by rw [hle9.2]; exact hr0
  clear hle9
  refine iz_putF (D := (dC, dI)) (ci := 9) (v := .ref x_2) (ty := .array (.object "JoinBench$Rule")) (C := RX9) (T := TX9) (N := 5) hx hb hts hinX9 tyX9 tyX9_ok nmX9 hown hK c_a0 hS hA0 rfl 1 (by decide) hL19 (fun _ h9 => h9) rfl hin rfl (by decide +kernel) rfl rfl (Nat.le_of_ble_eq_true rfl) dX9_init_19 (fun H locs c9 oq hS hz9 => ?_)
  clear hz9
  have hI := jv_skip hI h0_a0 oq
  have c_a0 := c9
  clear oq c9
  refine lv_aload_n hx hb dX9_init_22 rfl (lv_at hl 0 rfl) ?_
  refine lv_iconst (v := kz 0) hx hb dX9_init_23 rfl ?_
  refine iz_put (D := (dC, dI)) (ci := 9) (v := .int (kz 0)) (ty := .int) (C := RX9) (T := TX9) (N := 5) hx hb hts hinX9 tyX9 tyX9_ok nmX9 hown hK c_a0 hS hA0 rfl 2 (by decide) hL23 (fun _ h9 => h9) rfl (by decide +kernel) rfl rfl (Nat.le_of_ble_eq_true rfl) dX9_init_24 (fun H locs c9 oq hS => ?_)
  have hI := jv_skip hI h0_a0 oq
  have c_a0 := c9
  clear oq c9
  refine lv_aload_n hx hb dX9_init_27 rfl (lv_at hl 0 rfl) ?_
  refine lv_iconst (v := kz 0) hx hb dX9_init_28 rfl ?_
  refine iz_put (D := (dC, dI)) (ci := 9) (v := .int (kz 0)) (ty := .int) (C := RX9) (T := TX9) (N := 5) hx hb hts hinX9 tyX9 tyX9_ok nmX9 hown hK c_a0 hS hA0 rfl 3 (by decide) hL27 (fun _ h9 => h9) rfl (by decide +kernel) rfl rfl (Nat.le_of_ble_eq_true rfl) dX9_init_29 (fun H locs c9 oq hS => ?_)
  have hI := jv_skip hI h0_a0 oq
  have c_a0 := c9
  clear oq c9
  refine lv_aload_n hx hb dX9_init_32 rfl (lv_at hl 0 rfl) ?_
  refine lv_bipush (v := kz 36) hx hb dX9_init_33 (by decide) ?_
  have hzH : n0 ≤ H.size := by have h8 := hS.1; omega
  refine jz_newa (atype := .boolean) (ty := .boolean) (N := 36) hx hb (hts (.arrayClass .boolean) (by decide +kernel)) rfl hK 2 rfl hS (a0 := (36, .inl (fun _ => 0))) rfl (by decide) (by decide) (Nat.le_of_ble_eq_true rfl) (Nat.le_of_ble_eq_true rfl) dX9_init_35 (fun x_3 H hx9 c_x_3 oq hz9 hS => ?_)
  have h0_x_3 : (X.1 x_3).2.1 = 0 := jv_out hI (by omega)
  have hge_x_3 : n0 ≤ x_3 := by omega
  have hne_x_3_a0 : x_3 ≠ a0 := by have h9 := c_a0.lt; omega
  have c_a0 := c_a0.kept (oq _ c_a0.lt)
  have hI := jv_keep hI (fun q hq => oq q (jv_lt hI hq))
  clear oq hz9 hx9
  have hle9 := jset_le (X := X) (x := x_3) (214, 22, 36, 0, 0) 0 h0_x_3
  have hI := jv_new1 (t := (214, 22, 36, 0, 0)) (n := 0) hI h0_x_3 trivial (fun q _ => rfl) c_x_3 (jz_e22)
  have hU := jset_U (x := x_3) (t := (214, 22, 36, 0, 0)) 0 hU h0_x_3 (fun _ => hno_214)
  have hJ := nw_set (x := x_3) (t := (214, 22, 36, 0, 0)) 0 hJ h0_x_3 (Or.inr hge_x_3) (by simp [Lt9])
  have hno_9 := jset_no (x := x_3) (t := (214, 22, 36, 0, 0)) 0 hno_9 (by decide)
  have g_x_3 := jset_self X x_3 (214, 22, 36, 0, 0) 0
  have gn_x_3 := jset_n X x_3 (214, 22, 36, 0, 0) 0
  have h0_a0 : ((jset X x_3 (214, 22, 36, 0, 0) 0).1 a0).2.1 = 0 := by rw [jset_ne X _ _ (Ne.symm hne_x_3_a0)]; exact h0_a0
  obtain ⟨X, hY9⟩ : ∃ Y9 : jG, Y9 = jset X x_3 (214, 22, 36, 0, 0) 0 := ⟨_, rfl⟩
  rw [← hY9] at hle9 hI hU hJ hno_9 g_x_3 gn_x_3 h0_a0
  clear hY9
  have g_x_1 := le_t hle9 g_x_1 (show (24 : Nat) ≠ 0 by decide)
  have g_x_2 := le_t hle9 g_x_2 (show (29 : Nat) ≠ 0 by decide)
  have hr0 : X.2.2.2 = 0 := by rw [hle9.2]; exact hr0
  clear hle9
  refine iz_putF (D := (dC, dI)) (ci := 9) (v := .ref x_3) (ty := .array .boolean) (C := RX9) (T := TX9) (N := 5) hx hb hts hinX9 tyX9 tyX9_ok nmX9 hown hK c_a0 hS hA0 rfl 4 (by decide) hL30 (fun _ h9 => h9) rfl hin rfl (by decide +kernel) rfl rfl (Nat.le_of_ble_eq_true rfl) dX9_init_37 (fun H locs c9 oq hS hz9 => ?_)
  clear hz9
  have hI := jv_skip hI h0_a0 oq
  have c_a0 := c9
  clear oq c9
  have hleE := jset_le (X := X) (x := a0) (9, 30, 0, 0, 0) 0 h0_a0
  have hle9 := jset_le (X := X) (x := a0) (9, 30, 0, 0, 0) 0 h0_a0
  have hI := jv_new1 (t := (9, 30, 0, 0, 0)) (n := 0) hI h0_a0 trivial (fun q _ => rfl) c_a0 (jv_c9 ⟨x_1, x_2, 0, 0, x_3, rfl, le_t hleE g_x_1 (show (24 : Nat) ≠ 0 by decide), le_t hleE g_x_2 (show (29 : Nat) ≠ 0 by decide), ⟨by omega, by omega⟩, ⟨by omega, by omega⟩, le_t hleE g_x_3 (show (22 : Nat) ≠ 0 by decide), by omega, by omega, by rw [hleE.2, hr0]; rfl⟩)
  have hU := jset_U (x := a0) (t := (9, 30, 0, 0, 0)) 0 hU h0_a0 (fun _ => hno_9)
  have hJ := nw_set (x := a0) (t := (9, 30, 0, 0, 0)) 0 hJ h0_a0 (Or.inl rfl) (by simp [Lt9])
  have g_a0 := jset_self X a0 (9, 30, 0, 0, 0) 0
  have gn_a0 := jset_n X a0 (9, 30, 0, 0, 0) 0
  obtain ⟨X, hY9⟩ : ∃ Y9 : jG, Y9 = jset X a0 (9, 30, 0, 0, 0) 0 := ⟨_, rfl⟩
  rw [← hY9] at hle9 hI hU hJ g_a0 gn_a0
  clear hY9
  have hr0 : X.2.2.2 = 0 := by rw [hle9.2]; exact hr0
  clear hle9
  exact W.vret hx hb hr (fun t9 ht hW => ⟨⟨X, rfl, ⟨hJ, g_a0, hU⟩, jK_warm hW ⟨hK, hN⟩, by rw [ht]; exact hI⟩, hS.F ht⟩) hS.2.2 dX9_init_40
set_option maxHeartbeats 4000000 in
set_option maxRecDepth 100000 in
/-- X6_init -/
theorem k_Row (l : Launch) (dC : Nat → ClassId) (dI : Nat → Nat → Nat) (ca : Nat → ClassId) (X : jG) (hU : jU X) (a0 n0 : Nat) (h0_a0 : (X.1 a0).2.1 = 0) (hno_6 : ∀ q : Nat, X.1 q ≠ (6, 30, 0, 0, 0)) (hno_203 : ∀ q : Nat, X.1 q ≠ (203, 21, 480, 0, 0)) (hno_0 : ∀ q : Nat, X.1 q ≠ (0, 30, (16 : Nat), 0, 0)) (hno_210 : ∀ q : Nat, X.1 q ≠ (210, 24, 40, 2, ((16 : Nat) : Int))) (hno_211 : ∀ q : Nat, X.1 q ≠ (211, 25, 40, 7, ((16 : Nat) : Int))) : Met l yX6_init wsX6_init ({ frames := 2, cells := 4, slots := 563, locals := 32 }) (va_Pc [.ref a0] (fun U => U.heap.size = n0 ∧ jK (dC, dI) ca U ∧ jv (dC, dI) ca (fun _ => True) X U.heap ∧ va_at (dC, dI) vwCl (a0, .inr (6, [.null, .null, .int (kz 0), .int (kz 0)])) U.heap)) (va_Qv (fun (u : jG) => jnw X u a0 n0 (6, 30, 0, 0, 0) Lt6) (fun u U => jK (dC, dI) ca U ∧ jv (dC, dI) ca (fun _ => True) u U.heap) (jA a0 n0)) 4 563 (jA a0 n0) := by
  refine Met.ofW (cc := cX6_init) (maxL := 1) (ret := none) (by decide) rfl ?_
  intro p e s m args below meth c s₁ B hml hv
  obtain ⟨rfl, hsz, ⟨hK, hN⟩, hI, c_a0⟩ := hv
  have hx := B.exec
  have hb := B.bytes
  have hr := B.returns
  have hts := atoms_spec (ws := wsX6_init) B.pre
  have hown : s.vm.findClass RX6 = some m.cls := findClass_of_methodNamed B.named
  have hin : meth.name = "<init>" := (name_of_methodNamed B.named B.method).1
  have hL12 := hts (.fieldLink RX6 12 "JoinBench$Row" "chain" "LJoinBench$Chain;") (by decide +kernel)
  have hL18 := hts (.fieldLink RX6 18 "JoinBench$Row" "out" "[B") (by decide +kernel)
  have hL22 := hts (.fieldLink RX6 22 "JoinBench$Row" "day" "I") (by decide +kernel)
  have hL26 := hts (.fieldLink RX6 26 "JoinBench$Row" "outSize" "I") (by decide +kernel)
  have hinX6 : ∀ w ∈ u_ws RX6 TX6 4, w ∈ wsX6_init := by decide +kernel
  have hJ := nw_rf X a0 n0 Lt6
  generalize hAe : jA a0 n0 = A
  have hA : ∀ q : Nat, n0 ≤ q → A q := fun q h => by rw [← hAe]; exact Or.inr h
  have hA0 : A a0 := by rw [← hAe]; exact Or.inl rfl
  obtain ⟨H, hH⟩ : ∃ H : Heap, H = s.heap := ⟨_, rfl⟩
  have hS : va_S A s.heap H [] := by rw [hH]; exact va_S.rf
  have hzH : n0 ≤ H.size := by have h8 := hS.1; omega
  rw [← hH] at hI c_a0 ⊢
  clear hH
  have hl := lv_entry ([.ref a0]) (n := 1) (Nat.le_of_ble_eq_true rfl)
  rw [lg_entry_eq]
  generalize (lg_sl ([.ref a0]) ++ List.replicate (1 - (lg_sl ([.ref a0])).length) Slot.unset).toArray = ls at hl ⊢
  have hl : lv_has ls 1 [(0, .ref a0)] := hl
  refine lv_aload_n hx hb dX6_init_0 rfl (lv_at hl 0 rfl) ?_
  refine W.objInit hx hb hown (hts (.methodLink RX6 3 objectInit) (by decide +kernel)) (hts (.instanceMethod objectInit) (by decide +kernel)) (hts _ (List.mem_of_getElem? (i := 3) rfl)) rfl (by rw [hml]; exact hl.1) rfl dX6_init_1 (Nat.le_of_ble_eq_true rfl) (Nat.le_of_ble_eq_true rfl) ?_
  refine lv_aload_n hx hb dX6_init_4 rfl (lv_at hl 0 rfl) ?_
  have hzH : n0 ≤ H.size := by have h8 := hS.1; omega
  refine jz_new (ci := 0) (fs := [.null, .null, .int (kz 0)]) (C := RX0) (T := TX0) (N := 3) hx hb hts (by decide +kernel) tyX0 tyX0_ok hown (hts (.classLink RX6 9 RX0) (by decide +kernel)) (hts (.instantiable RX0 3) (by decide +kernel)) (hts (.initialized RX0) (by decide +kernel)) hK hS rfl (fun j hj => by rcases (show j = 0 ∨ j = 1 ∨ j = 2 by omega) with rfl | rfl | rfl <;> rfl) (Nat.le_of_ble_eq_true rfl) (Nat.le_of_ble_eq_true rfl) dX6_init_5 (fun x_1 H hx9 c_x_1 oq hz9 hS => ?_)
  have h0_x_1 : (X.1 x_1).2.1 = 0 := jv_out hI (by omega)
  have hge_x_1 : n0 ≤ x_1 := by omega
  have hne_x_1_a0 : x_1 ≠ a0 := by have h9 := c_a0.lt; omega
  have c_a0 := c_a0.kept (oq _ c_a0.lt)
  have hI := jv_keep hI (fun q hq => oq q (jv_lt hI hq))
  clear oq hz9 hx9
  refine lv_dup hx hb dX6_init_8 rfl ?_
  have hzH : n0 ≤ H.size := by have h8 := hS.1; omega
  have hxl := c_x_1.lt
  refine va_callv (va_runIN (As := []) (rest := [.ref x_1, .ref a0]) ⟨hx, hb, hml, hown, hts⟩ (k_Chain l dC dI ca X hU x_1 H.size (16 : Nat) h0_x_1 hno_0 hno_210 hno_211) ⟨va_cnB 0 hts gX6_init_X0_init_n11 rfl rfl rfl (jN_X6_11 hN) (hts (.initialized RX0) (by decide +kernel)) (by decide +kernel) ⟨Nat.le_of_ble_eq_true rfl, Nat.le_of_ble_eq_true rfl⟩, rfl, (hts (.instanceMethod yX0_init) (by decide +kernel))⟩ ⟨fun a U g mk q => by obtain ⟨q0, q1, ⟨qK, qN⟩, qI⟩ := q; exact ⟨q0, q1, ⟨va_K.moved (u := U) (U := U.calling g mk a) (Vm.Alike.refl U.vm) qK, jN_same (U := U.calling g mk a) rfl qN⟩, qI⟩, fun U hU9 hW => ⟨rfl, by rw [hU9], jK_warm hW ⟨hK, hN⟩, by rw [hU9]; exact ⟨jv_A2 hI (fun _ _ => trivial), c_x_1⟩⟩⟩ rfl rfl hl.1 rfl (lv_room (Nat.le_of_ble_eq_true rfl)) dX6_init_9 ⟨(Nat.le_of_ble_eq_true rfl), (Nat.le_of_ble_eq_true rfl)⟩) hS (fun q h8 h9 => h9.elim (fun e9 => by rw [e9]; exact (hA _ hge_x_1)) (fun e9 => absurd e9 (by omega))) (fun q h9 => h9.elim (fun e9 => by rw [e9]; exact (hA _ hge_x_1)) (fun e9 => hA q (by omega))) (fun X t9 H locs ht hvm hw_2 hB hz1 hk1 hS => ?_)
  obtain ⟨hw_2, hw_2g, hU⟩ := hw_2
  obtain ⟨-, hI⟩ := hB
  rw [ht] at hI
  clear ht hvm
  have hle9 := nw_le hw_2
  have h9 := c_a0.lt
  have c_a0 := c_a0.kept (hk1 _ h9 (fun e9 => e9.elim (Ne.symm hne_x_1_a0) (fun e8 => absurd e8 (by omega))))
  have h8_a0 := nw_0 hw_2 h0_a0 (Ne.symm hne_x_1_a0) h9
  have h0_a0 := h8_a0
  have hno_6 := nw_no hw_2 hno_6 (by simp [Lc])
  have hno_203 := nw_no hw_2 hno_203 (by simp [Lc])
  have hJ := nw_tr hJ hw_2 (Or.inr hge_x_1) hzH (fun c hc => List.mem_cons_of_mem _ (List.mem_cons_of_mem _ hc))
  clear hle9 hxl hk1 hz1
  have g_x_1 := hw_2g
  refine iz_putF (D := (dC, dI)) (ci := 6) (v := .ref x_1) (ty := .object "JoinBench$Chain") (C := RX6) (T := TX6) (N := 4) hx hb hts hinX6 tyX6 tyX6_ok nmX6 hown hK c_a0 hS hA0 rfl 0 (by decide) hL12 (fun _ h9 => h9) rfl hin rfl (by decide +kernel) rfl rfl (Nat.le_of_ble_eq_true rfl) dX6_init_12 (fun H locs c9 oq hS hz9 => ?_)
  clear hz9
  have hI := jv_skip hI h0_a0 oq
  have c_a0 := c9
  clear oq c9
  refine lv_aload_n hx hb dX6_init_15 rfl (lv_at hl 0 rfl) ?_
  refine lv_sipush (v := kz 480) hx hb dX6_init_16 (by decide) ?_
  have hzH : n0 ≤ H.size := by have h8 := hS.1; omega
  refine jz_newa (atype := .byte) (ty := .byte) (N := 480) hx hb (hts (.arrayClass .byte) (by decide +kernel)) rfl hK 1 rfl hS (a0 := (480, .inl (fun _ => 0))) rfl (by decide) (by decide) (Nat.le_of_ble_eq_true rfl) (Nat.le_of_ble_eq_true rfl) dX6_init_19 (fun x_3 H hx9 c_x_3 oq hz9 hS => ?_)
  have h0_x_3 : (X.1 x_3).2.1 = 0 := jv_out hI (by omega)
  have hge_x_3 : n0 ≤ x_3 := by omega
  have hne_x_3_a0 : x_3 ≠ a0 := by have h9 := c_a0.lt; omega
  have c_a0 := c_a0.kept (oq _ c_a0.lt)
  have hI := jv_keep hI (fun q hq => oq q (jv_lt hI hq))
  clear oq hz9 hx9
  have hle9 := jset_le (X := X) (x := x_3) (203, 21, 480, 0, 0) 0 h0_x_3
  have hI := jv_new1 (t := (203, 21, 480, 0, 0)) (n := 0) hI h0_x_3 trivial (fun q _ => rfl) c_x_3 (jz_e21 (show (203 : Nat) ≠ 200 by decide))
  have hU := jset_U (x := x_3) (t := (203, 21, 480, 0, 0)) 0 hU h0_x_3 (fun _ => hno_203)
  have hJ := nw_set (x := x_3) (t := (203, 21, 480, 0, 0)) 0 hJ h0_x_3 (Or.inr hge_x_3) (by simp [Lt6])
  have hno_6 := jset_no (x := x_3) (t := (203, 21, 480, 0, 0)) 0 hno_6 (by decide)
  have g_x_3 := jset_self X x_3 (203, 21, 480, 0, 0) 0
  have gn_x_3 := jset_n X x_3 (203, 21, 480, 0, 0) 0
  have h0_a0 : ((jset X x_3 (203, 21, 480, 0, 0) 0).1 a0).2.1 = 0 := by rw [jset_ne X _ _ (Ne.symm hne_x_3_a0)]; exact h0_a0
  obtain ⟨X, hY9⟩ : ∃ Y9 : jG, Y9 = jset X x_3 (203, 21, 480, 0, 0) 0 := ⟨_, rfl⟩
  rw [← hY9] at hle9 hI hU hJ hno_6 g_x_3 gn_x_3 h0_a0
  clear hY9
  have g_x_1 := le_t hle9 g_x_1 (show (30 : Nat) ≠ 0 by decide)
  clear hle9
  refine iz_putF (D := (dC, dI)) (ci := 6) (v := .ref x_3) (ty := .array .byte) (C := RX6) (T := TX6) (N := 4) hx hb hts hinX6 tyX6 tyX6_ok nmX6 hown hK c_a0 hS hA0 rfl 1 (by decide) hL18 (fun _ h9 => h9) rfl hin rfl (by decide +kernel) rfl rfl (Nat.le_of_ble_eq_true rfl) dX6_init_21 (fun H locs c9 oq hS hz9 => ?_)
  clear hz9
  have hI := jv_skip hI h0_a0 oq
  have c_a0 := c9
  clear oq c9
  refine lv_aload_n hx hb dX6_init_24 rfl (lv_at hl 0 rfl) ?_
  refine lv_iconst (v := kz 0) hx hb dX6_init_25 rfl ?_
  refine iz_put (D := (dC, dI)) (ci := 6) (v := .int (kz 0)) (ty := .int) (C := RX6) (T := TX6) (N := 4) hx hb hts hinX6 tyX6 tyX6_ok nmX6 hown hK c_a0 hS hA0 rfl 2 (by decide) hL22 (fun _ h9 => h9) rfl (by decide +kernel) rfl rfl (Nat.le_of_ble_eq_true rfl) dX6_init_26 (fun H locs c9 oq hS => ?_)
  have hI := jv_skip hI h0_a0 oq
  have c_a0 := c9
  clear oq c9
  refine lv_aload_n hx hb dX6_init_29 rfl (lv_at hl 0 rfl) ?_
  refine lv_iconst (v := kz 0) hx hb dX6_init_30 rfl ?_
  refine iz_put (D := (dC, dI)) (ci := 6) (v := .int (kz 0)) (ty := .int) (C := RX6) (T := TX6) (N := 4) hx hb hts hinX6 tyX6 tyX6_ok nmX6 hown hK c_a0 hS hA0 rfl 3 (by decide) hL26 (fun _ h9 => h9) rfl (by decide +kernel) rfl rfl (Nat.le_of_ble_eq_true rfl) dX6_init_31 (fun H locs c9 oq hS => ?_)
  have hI := jv_skip hI h0_a0 oq
  have c_a0 := c9
  clear oq c9
  have hleE := jset_le (X := X) (x := a0) (6, 30, 0, 0, 0) 0 h0_a0
  have hle9 := jset_le (X := X) (x := a0) (6, 30, 0, 0, 0) 0 h0_a0
  have hI := jv_new1 (t := (6, 30, 0, 0, 0)) (n := 0) hI h0_a0 trivial (fun q _ => rfl) c_a0 (jv_c6 ⟨x_1, x_3, 0, 0, rfl, le_t hleE g_x_1 (show (30 : Nat) ≠ 0 by decide), le_t hleE g_x_3 (show (21 : Nat) ≠ 0 by decide), ⟨by omega, by omega⟩, ⟨by omega, by omega⟩⟩)
  have hU := jset_U (x := a0) (t := (6, 30, 0, 0, 0)) 0 hU h0_a0 (fun _ => hno_6)
  have hJ := nw_set (x := a0) (t := (6, 30, 0, 0, 0)) 0 hJ h0_a0 (Or.inl rfl) (by simp [Lt6])
  have g_a0 := jset_self X a0 (6, 30, 0, 0, 0) 0
  have gn_a0 := jset_n X a0 (6, 30, 0, 0, 0) 0
  obtain ⟨X, hY9⟩ : ∃ Y9 : jG, Y9 = jset X a0 (6, 30, 0, 0, 0) 0 := ⟨_, rfl⟩
  rw [← hY9] at hle9 hI hU hJ g_a0 gn_a0
  clear hY9
  clear hle9
  exact W.vret hx hb hr (fun t9 ht hW => ⟨⟨X, rfl, ⟨hJ, g_a0, hU⟩, jK_warm hW ⟨hK, hN⟩, by rw [ht]; exact hI⟩, hS.F ht⟩) hS.2.2 dX6_init_34
set_option maxHeartbeats 4000000 in
set_option maxRecDepth 100000 in
/-- X1_init -/
theorem k_Choices (l : Launch) (dC : Nat → ClassId) (dI : Nat → Nat → Nat) (ca : Nat → ClassId) (X : jG) (hU : jU X) (a0 n0 : Nat) (h0_a0 : (X.1 a0).2.1 = 0) (hno_1 : ∀ q : Nat, X.1 q ≠ (1, 30, 0, 0, 0)) (hno_215 : ∀ q : Nat, X.1 q ≠ (215, 20, 20, -2147483648, 2147483647)) (hno_216 : ∀ q : Nat, X.1 q ≠ (216, 27, 30, 230, 40)) (hno_217 : ∀ q : Nat, X.1 q ≠ (217, 27, 30, 231, 20)) (hno_218 : ∀ q : Nat, X.1 q ≠ (218, 20, 30, 0, 40)) : Met l yX1_init wsX1_init ({ frames := 1, cells := 64, slots := 1910, locals := 12 }) (va_Pc [.ref a0] (fun U => U.heap.size = n0 ∧ jK (dC, dI) ca U ∧ jv (dC, dI) ca (fun _ => True) X U.heap ∧ va_at (dC, dI) vwCl (a0, .inr (1, [.null, .int (kz 0), .null, .null, .null, .int (kz 0)])) U.heap)) (va_Qv (fun (u : jG) => jnw X u a0 n0 (1, 30, 0, 0, 0) Lt1) (fun u U => jK (dC, dI) ca U ∧ jv (dC, dI) ca (fun _ => True) u U.heap) (jA a0 n0)) 64 1910 (jA a0 n0) := by
  refine Met.ofW (cc := cX1_init) (maxL := 1) (ret := none) (by decide) rfl ?_
  intro p e s m args below meth c s₁ B hml hv
  obtain ⟨rfl, hsz, ⟨hK, hN⟩, hI, c_a0⟩ := hv
  have hx := B.exec
  have hb := B.bytes
  have hr := B.returns
  have hts := atoms_spec (ws := wsX1_init) B.pre
  have hown : s.vm.findClass RX1 = some m.cls := findClass_of_methodNamed B.named
  have hin : meth.name = "<init>" := (name_of_methodNamed B.named B.method).1
  have hL9 := hts (.fieldLink RX1 9 "JoinBench$Choices" "uses" "[I") (by decide +kernel)
  have hL15 := hts (.fieldLink RX1 15 "JoinBench$Choices" "size" "I") (by decide +kernel)
  have hL21 := hts (.fieldLink RX1 21 "JoinBench$Choices" "costsBefore" "[[I") (by decide +kernel)
  have hL24 := hts (.fieldLink RX1 24 "JoinBench$Choices" "usesBefore" "[[I") (by decide +kernel)
  have hL27 := hts (.fieldLink RX1 27 "JoinBench$Choices" "formsBefore" "[I") (by decide +kernel)
  have hL30 := hts (.fieldLink RX1 30 "JoinBench$Choices" "oldest" "I") (by decide +kernel)
  have hinX1 : ∀ w ∈ u_ws RX1 TX1 6, w ∈ wsX1_init := by decide +kernel
  have hJ := nw_rf X a0 n0 Lt1
  generalize hAe : jA a0 n0 = A
  have hA : ∀ q : Nat, n0 ≤ q → A q := fun q h => by rw [← hAe]; exact Or.inr h
  have hA0 : A a0 := by rw [← hAe]; exact Or.inl rfl
  obtain ⟨H, hH⟩ : ∃ H : Heap, H = s.heap := ⟨_, rfl⟩
  have hS : va_S A s.heap H [] := by rw [hH]; exact va_S.rf
  have hzH : n0 ≤ H.size := by have h8 := hS.1; omega
  rw [← hH] at hI c_a0 ⊢
  clear hH
  have hl := lv_entry ([.ref a0]) (n := 1) (Nat.le_of_ble_eq_true rfl)
  rw [lg_entry_eq]
  generalize (lg_sl ([.ref a0]) ++ List.replicate (1 - (lg_sl ([.ref a0])).length) Slot.unset).toArray = ls at hl ⊢
  have hl : lv_has ls 1 [(0, .ref a0)] := hl
  refine lv_aload_n hx hb dX1_init_0 rfl (lv_at hl 0 rfl) ?_
  refine W.objInit hx hb hown (hts (.methodLink RX1 3 objectInit) (by decide +kernel)) (hts (.instanceMethod objectInit) (by decide +kernel)) (hts _ (List.mem_of_getElem? (i := 3) rfl)) rfl (by rw [hml]; exact hl.1) rfl dX1_init_1 (Nat.le_of_ble_eq_true rfl) (Nat.le_of_ble_eq_true rfl) ?_
  refine lv_aload_n hx hb dX1_init_4 rfl (lv_at hl 0 rfl) ?_
  refine lv_bipush (v := kz 20) hx hb dX1_init_5 (by decide) ?_
  have hzH : n0 ≤ H.size := by have h8 := hS.1; omega
  refine jz_newa (atype := .int) (ty := .int) (N := 20) hx hb (hts (.arrayClass .int) (by decide +kernel)) rfl hK 0 rfl hS (a0 := (20, .inl (fun _ => 0))) rfl (by decide) (by decide) (Nat.le_of_ble_eq_true rfl) (Nat.le_of_ble_eq_true rfl) dX1_init_7 (fun x_1 H hx9 c_x_1 oq hz9 hS => ?_)
  have h0_x_1 : (X.1 x_1).2.1 = 0 := jv_out hI (by omega)
  have hge_x_1 : n0 ≤ x_1 := by omega
  have hne_x_1_a0 : x_1 ≠ a0 := by have h9 := c_a0.lt; omega
  have c_a0 := c_a0.kept (oq _ c_a0.lt)
  have hI := jv_keep hI (fun q hq => oq q (jv_lt hI hq))
  clear oq hz9 hx9
  have hle9 := jset_le (X := X) (x := x_1) (215, 20, 20, -2147483648, 2147483647) 0 h0_x_1
  have hI := jv_new1 (t := (215, 20, 20, -2147483648, 2147483647)) (n := 0) hI h0_x_1 trivial (fun q _ => rfl) c_x_1 (jz_e20 (by decide))
  have hU := jset_U (x := x_1) (t := (215, 20, 20, -2147483648, 2147483647)) 0 hU h0_x_1 (fun _ => hno_215)
  have hJ := nw_set (x := x_1) (t := (215, 20, 20, -2147483648, 2147483647)) 0 hJ h0_x_1 (Or.inr hge_x_1) (by simp [Lt1])
  have hno_1 := jset_no (x := x_1) (t := (215, 20, 20, -2147483648, 2147483647)) 0 hno_1 (by decide)
  have hno_216 := jset_no (x := x_1) (t := (215, 20, 20, -2147483648, 2147483647)) 0 hno_216 (by decide)
  have hno_217 := jset_no (x := x_1) (t := (215, 20, 20, -2147483648, 2147483647)) 0 hno_217 (by decide)
  have hno_218 := jset_no (x := x_1) (t := (215, 20, 20, -2147483648, 2147483647)) 0 hno_218 (by decide)
  have g_x_1 := jset_self X x_1 (215, 20, 20, -2147483648, 2147483647) 0
  have gn_x_1 := jset_n X x_1 (215, 20, 20, -2147483648, 2147483647) 0
  have h0_a0 : ((jset X x_1 (215, 20, 20, -2147483648, 2147483647) 0).1 a0).2.1 = 0 := by rw [jset_ne X _ _ (Ne.symm hne_x_1_a0)]; exact h0_a0
  obtain ⟨X, hY9⟩ : ∃ Y9 : jG, Y9 = jset X x_1 (215, 20, 20, -2147483648, 2147483647) 0 := ⟨_, rfl⟩
  rw [← hY9] at hle9 hI hU hJ hno_1 hno_216 hno_217 hno_218 g_x_1 gn_x_1 h0_a0
  clear hY9
  clear hle9
  refine iz_putF (D := (dC, dI)) (ci := 1) (v := .ref x_1) (ty := .array .int) (C := RX1) (T := TX1) (N := 6) hx hb hts hinX1 tyX1 tyX1_ok nmX1 hown hK c_a0 hS hA0 rfl 0 (by decide) hL9 (fun _ h9 => h9) rfl hin rfl (by decide +kernel) rfl rfl (Nat.le_of_ble_eq_true rfl) dX1_init_9 (fun H locs c9 oq hS hz9 => ?_)
  clear hz9
  have hI := jv_skip hI h0_a0 oq
  have c_a0 := c9
  clear oq c9
  refine lv_aload_n hx hb dX1_init_12 rfl (lv_at hl 0 rfl) ?_
  refine lv_iconst (v := kz 0) hx hb dX1_init_13 rfl ?_
  refine iz_put (D := (dC, dI)) (ci := 1) (v := .int (kz 0)) (ty := .int) (C := RX1) (T := TX1) (N := 6) hx hb hts hinX1 tyX1 tyX1_ok nmX1 hown hK c_a0 hS hA0 rfl 1 (by decide) hL15 (fun _ h9 => h9) rfl (by decide +kernel) rfl rfl (Nat.le_of_ble_eq_true rfl) dX1_init_14 (fun H locs c9 oq hS => ?_)
  have hI := jv_skip hI h0_a0 oq
  have c_a0 := c9
  clear oq c9
  refine lv_aload_n hx hb dX1_init_17 rfl (lv_at hl 0 rfl) ?_
  refine lv_bipush (v := kz 30) hx hb dX1_init_18 (by decide) ?_
  refine lv_bipush (v := kz 40) hx hb dX1_init_20 (by decide) ?_
  have hzH : n0 ≤ H.size := by have h8 := hS.1; omega
  refine jz_mna (ty := .int) (kd := 27) (N := 30) (M := 40) hx hb hown (hts (.classLink RX1 19 "[[I") (by decide +kernel)) (jN_AO hN).2.2.2.1 (hts (.arrayClass .int) (by decide +kernel)) hK 0 7 rfl rfl (fun h9 => h9) hS (fun q h8 => hA q (by omega)) (by decide) (by decide) (by decide) (by decide) (by decide) (r0 := (40, .inl (fun _ => 0))) rfl rfl rfl (Nat.le_of_ble_eq_true rfl) (Nat.le_of_ble_eq_true rfl) dX1_init_22 (fun x_2 H locs hx9 c_x_2 r9 oq hz9 hS => ?_)
  have hu9 : ∀ q : Nat, x_2 ≤ q → (X.1 q).2.1 = 0 := fun q hq => jv_out hI (by omega)
  have hlt_a0 : a0 < x_2 := by have h9 := c_a0.lt; omega
  have c_a0 := c_a0.kept (oq _ c_a0.lt)
  have hz8 : n0 ≤ x_2 := by rw [hx9]; exact hzH
  have hle9 := jmul_le (X := X) (x := x_2) (N := 30) (216, 27, 30, 230, 40) (230, 20, 40, -2147483648, 2147483647) hu9
  have hI := jv_mul (x := x_2) (N := 30) (t := (216, 27, 30, 230, 40)) (tr := (230, 20, 40, -2147483648, 2147483647)) hI (by omega) (fun q h9 => trivial) (fun q hq => oq q (jv_lt hI hq)) c_x_2 r9 (jq_e27 (fun j hj => ⟨x_2 + 1 + j, if_pos hj, jmul_row X _ _ (by omega)⟩)) (fun q => jz_e20 (by decide))
  have hU := jmul_U (x := x_2) (N := 30) (t := (216, 27, 30, 230, 40)) (tr := (230, 20, 40, -2147483648, 2147483647)) hU (fun _ => hno_216) (by decide)
  have hJ := nw_mul (x := x_2) (N := 30) (t := (216, 27, 30, 230, 40)) (tr := (230, 20, 40, -2147483648, 2147483647)) hJ hu9 hz8 (by simp [Lt1]) (by simp [Lt1])
  have hno_1 := jmul_no (x := x_2) (N := 30) (t := (216, 27, 30, 230, 40)) (tr := (230, 20, 40, -2147483648, 2147483647)) hno_1 (by decide) (by decide)
  have hno_217 := jmul_no (x := x_2) (N := 30) (t := (216, 27, 30, 230, 40)) (tr := (230, 20, 40, -2147483648, 2147483647)) hno_217 (by decide) (by decide)
  have hno_218 := jmul_no (x := x_2) (N := 30) (t := (216, 27, 30, 230, 40)) (tr := (230, 20, 40, -2147483648, 2147483647)) hno_218 (by decide) (by decide)
  have g_x_2 := jmul_self X x_2 30 (216, 27, 30, 230, 40) (230, 20, 40, -2147483648, 2147483647)
  have h0_a0 : ((jmul X x_2 30 (216, 27, 30, 230, 40) (230, 20, 40, -2147483648, 2147483647)).1 a0).2.1 = 0 := by rw [jmul_ne X _ _ (Or.inl hlt_a0)]; exact h0_a0
  obtain ⟨X, hY9⟩ : ∃ Y9 : jG, Y9 = jmul X x_2 30 (216, 27, 30, 230, 40) (230, 20, 40, -2147483648, 2147483647) := ⟨_, rfl⟩
  rw [← hY9] at hle9 hI hU hJ hno_1 hno_217 hno_218 g_x_2 h0_a0
  clear hY9
  have hzH : n0 ≤ H.size := by have h8 := hS.1; omega
  have g_x_1 := le_t hle9 g_x_1 (show (20 : Nat) ≠ 0 by decide)
  clear hle9 hu9 hz8 oq hz9 hx9 r9
  refine iz_putF (D := (dC, dI)) (ci := 1) (v := .ref x_2) (ty := .array (.array .int)) (C := RX1) (T := TX1) (N := 6) hx hb hts hinX1 tyX1 tyX1_ok nmX1 hown hK c_a0 hS hA0 rfl 2 (by decide) hL21 (fun _ h9 => h9) rfl hin rfl (by decide +kernel) rfl rfl (Nat.le_of_ble_eq_true rfl) dX1_init_26 (fun H locs c9 oq hS hz9 => ?_)
  clear hz9
  have hI := jv_skip hI h0_a0 oq
  have c_a0 := c9
  clear oq c9
  refine lv_aload_n hx hb dX1_init_29 rfl (lv_at hl 0 rfl) ?_
  refine lv_bipush (v := kz 30) hx hb dX1_init_30 (by decide) ?_
  refine lv_bipush (v := kz 20) hx hb dX1_init_32 (by decide) ?_
  have hzH : n0 ≤ H.size := by have h8 := hS.1; omega
  refine jz_mna (ty := .int) (kd := 27) (N := 30) (M := 20) hx hb hown (hts (.classLink RX1 19 "[[I") (by decide +kernel)) (jN_AO hN).2.2.2.1 (hts (.arrayClass .int) (by decide +kernel)) hK 0 7 rfl rfl (fun h9 => h9) hS (fun q h8 => hA q (by omega)) (by decide) (by decide) (by decide) (by decide) (by decide) (r0 := (20, .inl (fun _ => 0))) rfl rfl rfl (Nat.le_of_ble_eq_true rfl) (Nat.le_of_ble_eq_true rfl) dX1_init_34 (fun x_3 H locs hx9 c_x_3 r9 oq hz9 hS => ?_)
  have hu9 : ∀ q : Nat, x_3 ≤ q → (X.1 q).2.1 = 0 := fun q hq => jv_out hI (by omega)
  have hlt_a0 : a0 < x_3 := by have h9 := c_a0.lt; omega
  have c_a0 := c_a0.kept (oq _ c_a0.lt)
  have hz8 : n0 ≤ x_3 := by rw [hx9]; exact hzH
  have hle9 := jmul_le (X := X) (x := x_3) (N := 30) (217, 27, 30, 231, 20) (231, 20, 20, -2147483648, 2147483647) hu9
  have hI := jv_mul (x := x_3) (N := 30) (t := (217, 27, 30, 231, 20)) (tr := (231, 20, 20, -2147483648, 2147483647)) hI (by omega) (fun q h9 => trivial) (fun q hq => oq q (jv_lt hI hq)) c_x_3 r9 (jq_e27 (fun j hj => ⟨x_3 + 1 + j, if_pos hj, jmul_row X _ _ (by omega)⟩)) (fun q => jz_e20 (by decide))
  have hU := jmul_U (x := x_3) (N := 30) (t := (217, 27, 30, 231, 20)) (tr := (231, 20, 20, -2147483648, 2147483647)) hU (fun _ => hno_217) (by decide)
  have hJ := nw_mul (x := x_3) (N := 30) (t := (217, 27, 30, 231, 20)) (tr := (231, 20, 20, -2147483648, 2147483647)) hJ hu9 hz8 (by simp [Lt1]) (by simp [Lt1])
  have hno_1 := jmul_no (x := x_3) (N := 30) (t := (217, 27, 30, 231, 20)) (tr := (231, 20, 20, -2147483648, 2147483647)) hno_1 (by decide) (by decide)
  have hno_218 := jmul_no (x := x_3) (N := 30) (t := (217, 27, 30, 231, 20)) (tr := (231, 20, 20, -2147483648, 2147483647)) hno_218 (by decide) (by decide)
  have g_x_3 := jmul_self X x_3 30 (217, 27, 30, 231, 20) (231, 20, 20, -2147483648, 2147483647)
  have h0_a0 : ((jmul X x_3 30 (217, 27, 30, 231, 20) (231, 20, 20, -2147483648, 2147483647)).1 a0).2.1 = 0 := by rw [jmul_ne X _ _ (Or.inl hlt_a0)]; exact h0_a0
  obtain ⟨X, hY9⟩ : ∃ Y9 : jG, Y9 = jmul X x_3 30 (217, 27, 30, 231, 20) (231, 20, 20, -2147483648, 2147483647) := ⟨_, rfl⟩
  rw [← hY9] at hle9 hI hU hJ hno_1 hno_218 g_x_3 h0_a0
  clear hY9
  have hzH : n0 ≤ H.size := by have h8 := hS.1; omega
  have g_x_1 := le_t hle9 g_x_1 (show (20 : Nat) ≠ 0 by decide)
  have g_x_2 := le_t hle9 g_x_2 (show (27 : Nat) ≠ 0 by decide)
  clear hle9 hu9 hz8 oq hz9 hx9 r9
  refine iz_putF (D := (dC, dI)) (ci := 1) (v := .ref x_3) (ty := .array (.array .int)) (C := RX1) (T := TX1) (N := 6) hx hb hts hinX1 tyX1 tyX1_ok nmX1 hown hK c_a0 hS hA0 rfl 3 (by decide) hL24 (fun _ h9 => h9) rfl hin rfl (by decide +kernel) rfl rfl (Nat.le_of_ble_eq_true rfl) dX1_init_38 (fun H locs c9 oq hS hz9 => ?_)
  clear hz9
  have hI := jv_skip hI h0_a0 oq
  have c_a0 := c9
  clear oq c9
  refine lv_aload_n hx hb dX1_init_41 rfl (lv_at hl 0 rfl) ?_
  refine lv_bipush (v := kz 30) hx hb dX1_init_42 (by decide) ?_
  have hzH : n0 ≤ H.size := by have h8 := hS.1; omega
  refine jz_newa (atype := .int) (ty := .int) (N := 30) hx hb (hts (.arrayClass .int) (by decide +kernel)) rfl hK 0 rfl hS (a0 := (30, .inl (fun _ => 0))) rfl (by decide) (by decide) (Nat.le_of_ble_eq_true rfl) (Nat.le_of_ble_eq_true rfl) dX1_init_44 (fun x_4 H hx9 c_x_4 oq hz9 hS => ?_)
  have h0_x_4 : (X.1 x_4).2.1 = 0 := jv_out hI (by omega)
  have hge_x_4 : n0 ≤ x_4 := by omega
  have hne_x_4_a0 : x_4 ≠ a0 := by have h9 := c_a0.lt; omega
  have c_a0 := c_a0.kept (oq _ c_a0.lt)
  have hI := jv_keep hI (fun q hq => oq q (jv_lt hI hq))
  clear oq hz9 hx9
  have hle9 := jset_le (X := X) (x := x_4) (218, 20, 30, 0, 40) 0 h0_x_4
  have hI := jv_new1 (t := (218, 20, 30, 0, 40)) (n := 0) hI h0_x_4 trivial (fun q _ => rfl) c_x_4 (jz_e20 (by decide))
  have hU := jset_U (x := x_4) (t := (218, 20, 30, 0, 40)) 0 hU h0_x_4 (fun _ => hno_218)
  have hJ := nw_set (x := x_4) (t := (218, 20, 30, 0, 40)) 0 hJ h0_x_4 (Or.inr hge_x_4) (by simp [Lt1])
  have hno_1 := jset_no (x := x_4) (t := (218, 20, 30, 0, 40)) 0 hno_1 (by decide)
  have g_x_4 := jset_self X x_4 (218, 20, 30, 0, 40) 0
  have gn_x_4 := jset_n X x_4 (218, 20, 30, 0, 40) 0
  have h0_a0 : ((jset X x_4 (218, 20, 30, 0, 40) 0).1 a0).2.1 = 0 := by rw [jset_ne X _ _ (Ne.symm hne_x_4_a0)]; exact h0_a0
  obtain ⟨X, hY9⟩ : ∃ Y9 : jG, Y9 = jset X x_4 (218, 20, 30, 0, 40) 0 := ⟨_, rfl⟩
  rw [← hY9] at hle9 hI hU hJ hno_1 g_x_4 gn_x_4 h0_a0
  clear hY9
  have g_x_1 := le_t hle9 g_x_1 (show (20 : Nat) ≠ 0 by decide)
  have g_x_2 := le_t hle9 g_x_2 (show (27 : Nat) ≠ 0 by decide)
  have g_x_3 := le_t hle9 g_x_3 (show (27 : Nat) ≠ 0 by decide)
  clear hle9
  refine iz_putF (D := (dC, dI)) (ci := 1) (v := .ref x_4) (ty := .array .int) (C := RX1) (T := TX1) (N := 6) hx hb hts hinX1 tyX1 tyX1_ok nmX1 hown hK c_a0 hS hA0 rfl 4 (by decide) hL27 (fun _ h9 => h9) rfl hin rfl (by decide +kernel) rfl rfl (Nat.le_of_ble_eq_true rfl) dX1_init_46 (fun H locs c9 oq hS hz9 => ?_)
  clear hz9
  have hI := jv_skip hI h0_a0 oq
  have c_a0 := c9
  clear oq c9
  refine lv_aload_n hx hb dX1_init_49 rfl (lv_at hl 0 rfl) ?_
  refine lv_iconst (v := kz 0) hx hb dX1_init_50 rfl ?_
  refine iz_put (D := (dC, dI)) (ci := 1) (v := .int (kz 0)) (ty := .int) (C := RX1) (T := TX1) (N := 6) hx hb hts hinX1 tyX1 tyX1_ok nmX1 hown hK c_a0 hS hA0 rfl 5 (by decide) hL30 (fun _ h9 => h9) rfl (by decide +kernel) rfl rfl (Nat.le_of_ble_eq_true rfl) dX1_init_51 (fun H locs c9 oq hS => ?_)
  have hI := jv_skip hI h0_a0 oq
  have c_a0 := c9
  clear oq c9
  have hleE := jset_le (X := X) (x := a0) (1, 30, 0, 0, 0) 0 h0_a0
  have hle9 := jset_le (X := X) (x := a0) (1, 30, 0, 0, 0) 0 h0_a0
  have hI := jv_new1 (t := (1, 30, 0, 0, 0)) (n := 0) hI h0_a0 trivial (fun q _ => rfl) c_a0 (jv_c1 ⟨x_1, 0, x_2, x_3, x_4, 0, rfl, le_t hleE g_x_1 (show (20 : Nat) ≠ 0 by decide), ⟨by omega, by omega⟩, le_t hleE g_x_2 (show (27 : Nat) ≠ 0 by decide), le_t hleE g_x_3 (show (27 : Nat) ≠ 0 by decide), le_t hleE g_x_4 (show (20 : Nat) ≠ 0 by decide), ⟨by omega, by omega⟩⟩)
  have hU := jset_U (x := a0) (t := (1, 30, 0, 0, 0)) 0 hU h0_a0 (fun _ => hno_1)
  have hJ := nw_set (x := a0) (t := (1, 30, 0, 0, 0)) 0 hJ h0_a0 (Or.inl rfl) (by simp [Lt1])
  have g_a0 := jset_self X a0 (1, 30, 0, 0, 0) 0
  have gn_a0 := jset_n X a0 (1, 30, 0, 0, 0) 0
  obtain ⟨X, hY9⟩ : ∃ Y9 : jG, Y9 = jset X a0 (1, 30, 0, 0, 0) 0 := ⟨_, rfl⟩
  rw [← hY9] at hle9 hI hU hJ g_a0 gn_a0
  clear hY9
  clear hle9
  exact W.vret hx hb hr (fun t9 ht hW => ⟨⟨X, rfl, ⟨hJ, g_a0, hU⟩, jK_warm hW ⟨hK, hN⟩, by rw [ht]; exact hI⟩, hS.F ht⟩) hS.2.2 dX1_init_54
