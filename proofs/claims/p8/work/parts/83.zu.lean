/-! the constructors, with what two tables hold behind them -/
theorem at_fe {D : va_G} {cl : List vw_C} {a n : Nat} {c : ClassId} {f g : Nat → Int32} {H : Heap} (h1 : va_at D cl (a, .inl (c, n, .inl f)) H) (h2 : va_at D cl (a, .inl (c, n, .inl g)) H) : ∀ j : Nat, j < n → f j = g j := fun j hj => by
  have h1 : H[a]? = some (arrV c n (fun j => .int (f j))) := h1
  have h2 : H[a]? = some (arrV c n (fun j => .int (g j))) := h2
  have e := Option.some.inj (h1.symm.trans h2)
  have r1 : (arrV c n (fun j => .int (f j))).slots[j]? = some (.int (f j)) := arrV_read _ _ hj
  have r2 : (arrV c n (fun j => .int (g j))).slots[j]? = some (.int (g j)) := arrV_read _ _ hj
  rw [e, r2] at r1
  exact (Value.int.inj (Option.some.inj r1)).symm
theorem ge_fe {f g : Nat → Int32} {n : Nat} (h : ∀ j : Nat, j < n → f j = g j) : ∀ z : Int, 0 ≤ z ∧ z < n → ge1 f z = ge1 g z := fun z hz => by
  unfold ge1
  rw [h z.toNat (by omega)]
set_option maxHeartbeats 4000000 in
set_option maxRecDepth 100000 in
theorem k_TongueZ (l : Launch) (dC : Nat → ClassId) (dI : Nat → Nat → Nat) (ca : Nat → ClassId) (X : jG) (hU : jU X) (a0 n0 : Nat) (h0_a0 : (X.1 a0).2.1 = 0) (hr0 : X.2.2.2 = 0) (hno_9 : ∀ q : Nat, X.1 q ≠ (9, 30, 0, 0, 0)) (hno_212 : ∀ q : Nat, X.1 q ≠ (212, 24, 40, 2, 0)) (hno_213 : ∀ q : Nat, X.1 q ≠ (213, 29, 24, 7, 0)) (hno_214 : ∀ q : Nat, X.1 q ≠ (214, 22, 36, 0, 0)) : Met l yX9_init wsX9_init ({ frames := 1, cells := 3, slots := 100, locals := 12 }) (va_Pc [.ref a0] (fun U => U.heap.size = n0 ∧ jK (dC, dI) ca U ∧ jv (dC, dI) ca (fun _ => True) X U.heap ∧ va_at (dC, dI) vwCl (a0, .inr (9, [.null, .null, .int (kz 0), .int (kz 0), .null])) U.heap)) (va_Qv (fun (u : jG) => jnw X u a0 n0 (9, 30, 0, 0, 0) Lt9) (fun u U => jK (dC, dI) ca U ∧ jv (dC, dI) ca (fun _ => True) u U.heap ∧ ∃ z9 : Nat, u.1 z9 = (214, 22, 36, 0, 0) ∧ va_at (dC, dI) vwCl (z9, .inl (ca 22, 36, .inl (fun _ => 0))) U.heap) (jA a0 n0)) 3 100 (jA a0 n0) := by
  refine Met.ofW (cc := cX9_init) (maxL := 1) (ret := none) (by decide) rfl ?_
  intro p e s m args below meth c s₁ B hml hv
  obtain ⟨rfl, hsz, ⟨hK, hN⟩, hI, c_a0⟩ := hv
  have hx := B.exec
  have hb := B.bytes
  have hr := B.returns
  have hts := atoms_spec (ws := wsX9_init) B.pre
  have hown : s.vm.findClass RX9 = some m.cls := findClass_of_methodNamed B.named
  have hin : meth.name = "<init>" := (name_of_methodNamed B.named B.method).1
  have hL11 := hts (.fieldLink RX9 11 "JoinBench$Tongue" "forms" "[LJoinBench$Form;") (by decide +kernel)
  have hL19 := hts (.fieldLink RX9 19 "JoinBench$Tongue" "rules" "[LJoinBench$Rule;") (by decide +kernel)
  have hL23 := hts (.fieldLink RX9 23 "JoinBench$Tongue" "formCount" "I") (by decide +kernel)
  have hL27 := hts (.fieldLink RX9 27 "JoinBench$Tongue" "ruleCount" "I") (by decide +kernel)
  have hL30 := hts (.fieldLink RX9 30 "JoinBench$Tongue" "forbidden" "[Z") (by decide +kernel)
  have hinX9 : ∀ w ∈ u_ws RX9 TX9 5, w ∈ wsX9_init := by decide +kernel
  have hJ := nw_rf X a0 n0 Lt9
  generalize hAe : jA a0 n0 = A
  have hA : ∀ q : Nat, n0 ≤ q → A q := fun q h => by rw [← hAe]; exact Or.inr h
  have hA0 : A a0 := by rw [← hAe]; exact Or.inl rfl
  obtain ⟨H, hH⟩ : ∃ H : Heap, H = s.heap := ⟨_, rfl⟩
  have hS : va_S A s.heap H [] := by rw [hH]; exact va_S.rf
  have hzH : n0 ≤ H.size := by have h8 := hS.1; omega
  rw [← hH] at hI c_a0 ⊢
  clear hH
  have hl := lv_entry ([.ref a0]) (n := 1) (Nat.le_of_ble_eq_true rfl)
  rw [lg_entry_eq]
  generalize (lg_sl ([.ref a0]) ++ List.replicate (1 - (lg_sl ([.ref a0])).length) Slot.unset).toArray = ls at hl ⊢
  have hl : lv_has ls 1 [(0, .ref a0)] := hl
  refine lv_aload_n hx hb dX9_init_0 rfl (lv_at hl 0 rfl) ?_
  refine W.objInit hx hb hown (hts (.methodLink RX9 3 objectInit) (by decide +kernel)) (hts (.instanceMethod objectInit) (by decide +kernel)) (hts _ (List.mem_of_getElem? (i := 3) rfl)) rfl (by rw [hml]; exact hl.1) rfl dX9_init_1 (Nat.le_of_ble_eq_true rfl) (Nat.le_of_ble_eq_true rfl) ?_
  refine lv_aload_n hx hb dX9_init_4 rfl (lv_at hl 0 rfl) ?_
  refine lv_bipush (v := kz 40) hx hb dX9_init_5 (by decide) ?_
  have hzH : n0 ≤ H.size := by have h8 := hS.1; omega
  refine jz_newq (own := RX9) (C := RX2) (kd := 24) (N := 40) hx hb hown (hts (.classLink RX9 9 RX2) (by decide +kernel)) (jN_AO hN).1 hK 4 rfl hS (by decide) (by decide) (Nat.le_of_ble_eq_true rfl) (Nat.le_of_ble_eq_true rfl) dX9_init_7 (fun x_1 H hx9 c_x_1 oq hz9 hS => ?_)
  have h0_x_1 : (X.1 x_1).2.1 = 0 := jv_out hI (by omega)
  have hge_x_1 : n0 ≤ x_1 := by omega
  have hne_x_1_a0 : x_1 ≠ a0 := by have h9 := c_a0.lt; omega
  have c_a0 := c_a0.kept (oq _ c_a0.lt)
  have hI := jv_keep hI (fun q hq => oq q (jv_lt hI hq))
  clear oq hz9 hx9
  have hle9 := jset_le (X := X) (x := x_1) (212, 24, 40, 2, 0) 0 h0_x_1
  have hI := jv_new1 (t := (212, 24, 40, 2, 0)) (n := 0) hI h0_x_1 trivial (fun q _ => rfl) c_x_1 (jq_e24 (fun j hj => ⟨fun b hb => (by cases hb), fun h9 => absurd h9 (by rw [jset_n]; omega)⟩))
  have hU := jset_U (x := x_1) (t := (212, 24, 40, 2, 0)) 0 hU h0_x_1 (fun _ => hno_212)
  have hJ := nw_set (x := x_1) (t := (212, 24, 40, 2, 0)) 0 hJ h0_x_1 (Or.inr hge_x_1) (by simp [Lt9])
  have hno_9 := jset_no (x := x_1) (t := (212, 24, 40, 2, 0)) 0 hno_9 (by decide)
  have hno_213 := jset_no (x := x_1) (t := (212, 24, 40, 2, 0)) 0 hno_213 (by decide)
  have hno_214 := jset_no (x := x_1) (t := (212, 24, 40, 2, 0)) 0 hno_214 (by decide)
  have g_x_1 := jset_self X x_1 (212, 24, 40, 2, 0) 0
  have gn_x_1 := jset_n X x_1 (212, 24, 40, 2, 0) 0
  have h0_a0 : ((jset X x_1 (212, 24, 40, 2, 0) 0).1 a0).2.1 = 0 := by rw [jset_ne X _ _ (Ne.symm hne_x_1_a0)]; exact h0_a0
  obtain ⟨X, hY9⟩ : ∃ Y9 : jG, Y9 = jset X x_1 (212, 24, 40, 2, 0) 0 := ⟨_, rfl⟩
  rw [← hY9] at hle9 hI hU hJ hno_9 hno_213 hno_214 g_x_1 gn_x_1 h0_a0
  clear hY9
  have hr0 : X.2.2.2 = 0 := by rw [hle9.2]; exact hr0
  clear hle9
  refine iz_putF (D := (dC, dI)) (ci := 9) (v := .ref x_1) (ty := .array (.object "JoinBench$Form")) (C := RX9) (T := TX9) (N := 5) hx hb hts hinX9 tyX9 tyX9_ok nmX9 hown hK c_a0 hS hA0 rfl 0 (by decide) hL11 (fun _ h9 => h9) rfl hin rfl (by decide +kernel) rfl rfl (Nat.le_of_ble_eq_true rfl) dX9_init_10 (fun H locs c9 oq hS hz9 => ?_)
  clear hz9
  have hI := jv_skip hI h0_a0 oq
  have c_a0 := c9
  clear oq c9
  refine lv_aload_n hx hb dX9_init_13 rfl (lv_at hl 0 rfl) ?_
  refine lv_bipush (v := kz 24) hx hb dX9_init_14 (by decide) ?_
  have hzH : n0 ≤ H.size := by have h8 := hS.1; omega
  refine jz_newq (own := RX9) (C := RX7) (kd := 25) (N := 24) hx hb hown (hts (.classLink RX9 17 RX7) (by decide +kernel)) (jN_AO hN).2.1 hK 5 rfl hS (by decide) (by decide) (Nat.le_of_ble_eq_true rfl) (Nat.le_of_ble_eq_true rfl) dX9_init_16 (fun x_2 H hx9 c_x_2 oq hz9 hS => ?_)
  have h0_x_2 : (X.1 x_2).2.1 = 0 := jv_out hI (by omega)
  have hge_x_2 : n0 ≤ x_2 := by omega
  have hne_x_2_a0 : x_2 ≠ a0 := by have h9 := c_a0.lt; omega
  have c_a0 := c_a0.kept (oq _ c_a0.lt)
  have hI := jv_keep hI (fun q hq => oq q (jv_lt hI hq))
  clear oq hz9 hx9
  have hle9 := jset_le (X := X) (x := x_2) (213, 29, 24, 7, 0) 0 h0_x_2
  have hI := jv_new1 (t := (213, 29, 24, 7, 0)) (n := 0) hI h0_x_2 trivial (fun q _ => rfl) c_x_2 (jq_e29 (fun j hj => ⟨fun b hb => (by cases hb), fun h9 => absurd h9 (by rw [jset_n]; omega)⟩))
  have hU := jset_U (x := x_2) (t := (213, 29, 24, 7, 0)) 0 hU h0_x_2 (fun _ => hno_213)
  have hJ := nw_set (x := x_2) (t := (213, 29, 24, 7, 0)) 0 hJ h0_x_2 (Or.inr hge_x_2) (by simp [Lt9])
  have hno_9 := jset_no (x := x_2) (t := (213, 29, 24, 7, 0)) 0 hno_9 (by decide)
  have hno_214 := jset_no (x := x_2) (t := (213, 29, 24, 7, 0)) 0 hno_214 (by decide)
  have g_x_2 := jset_self X x_2 (213, 29, 24, 7, 0) 0
  have gn_x_2 := jset_n X x_2 (213, 29, 24, 7, 0) 0
  have h0_a0 : ((jset X x_2 (213, 29, 24, 7, 0) 0).1 a0).2.1 = 0 := by rw [jset_ne X _ _ (Ne.symm hne_x_2_a0)]; exact h0_a0
  obtain ⟨X, hY9⟩ : ∃ Y9 : jG, Y9 = jset X x_2 (213, 29, 24, 7, 0) 0 := ⟨_, rfl⟩
  rw [← hY9] at hle9 hI hU hJ hno_9 hno_214 g_x_2 gn_x_2 h0_a0
  clear hY9
  have g_x_1 := le_t hle9 g_x_1 (show (24 : Nat) ≠ 0 by decide)
  have hr0 : X.2.2.2 = 0 := by rw [hle9.2]; exact hr0
  clear hle9
  refine iz_putF (D := (dC, dI)) (ci := 9) (v := .ref x_2) (ty := .array (.object "JoinBench$Rule")) (C := RX9) (T := TX9) (N := 5) hx hb hts hinX9 tyX9 tyX9_ok nmX9 hown hK c_a0 hS hA0 rfl 1 (by decide) hL19 (fun _ h9 => h9) rfl hin rfl (by decide +kernel) rfl rfl (Nat.le_of_ble_eq_true rfl) dX9_init_19 (fun H locs c9 oq hS hz9 => ?_)
  clear hz9
  have hI := jv_skip hI h0_a0 oq
  have c_a0 := c9
  clear oq c9
  refine lv_aload_n hx hb dX9_init_22 rfl (lv_at hl 0 rfl) ?_
  refine lv_iconst (v := kz 0) hx hb dX9_init_23 rfl ?_
  refine iz_put (D := (dC, dI)) (ci := 9) (v := .int (kz 0)) (ty := .int) (C := RX9) (T := TX9) (N := 5) hx hb hts hinX9 tyX9 tyX9_ok nmX9 hown hK c_a0 hS hA0 rfl 2 (by decide) hL23 (fun _ h9 => h9) rfl (by decide +kernel) rfl rfl (Nat.le_of_ble_eq_true rfl) dX9_init_24 (fun H locs c9 oq hS => ?_)
  have hI := jv_skip hI h0_a0 oq
  have c_a0 := c9
  clear oq c9
  refine lv_aload_n hx hb dX9_init_27 rfl (lv_at hl 0 rfl) ?_
  refine lv_iconst (v := kz 0) hx hb dX9_init_28 rfl ?_
  refine iz_put (D := (dC, dI)) (ci := 9) (v := .int (kz 0)) (ty := .int) (C := RX9) (T := TX9) (N := 5) hx hb hts hinX9 tyX9 tyX9_ok nmX9 hown hK c_a0 hS hA0 rfl 3 (by decide) hL27 (fun _ h9 => h9) rfl (by decide +kernel) rfl rfl (Nat.le_of_ble_eq_true rfl) dX9_init_29 (fun H locs c9 oq hS => ?_)
  have hI := jv_skip hI h0_a0 oq
  have c_a0 := c9
  clear oq c9
  refine lv_aload_n hx hb dX9_init_32 rfl (lv_at hl 0 rfl) ?_
  refine lv_bipush (v := kz 36) hx hb dX9_init_33 (by decide) ?_
  have hzH : n0 ≤ H.size := by have h8 := hS.1; omega
  refine jz_newa (atype := .boolean) (ty := .boolean) (N := 36) hx hb (hts (.arrayClass .boolean) (by decide +kernel)) rfl hK 2 rfl hS (a0 := (36, .inl (fun _ => 0))) rfl (by decide) (by decide) (Nat.le_of_ble_eq_true rfl) (Nat.le_of_ble_eq_true rfl) dX9_init_35 (fun x_3 H hx9 c_x_3 oq hz9 hS => ?_)
  have h0_x_3 : (X.1 x_3).2.1 = 0 := jv_out hI (by omega)
  have hge_x_3 : n0 ≤ x_3 := by omega
  have hne_x_3_a0 : x_3 ≠ a0 := by have h9 := c_a0.lt; omega
  have c_a0 := c_a0.kept (oq _ c_a0.lt)
  have hI := jv_keep hI (fun q hq => oq q (jv_lt hI hq))
  clear oq hz9 hx9
  have hle9 := jset_le (X := X) (x := x_3) (214, 22, 36, 0, 0) 0 h0_x_3
  have hI := jv_new1 (t := (214, 22, 36, 0, 0)) (n := 0) hI h0_x_3 trivial (fun q _ => rfl) c_x_3 (jz_e22)
  have hU := jset_U (x := x_3) (t := (214, 22, 36, 0, 0)) 0 hU h0_x_3 (fun _ => hno_214)
  have hJ := nw_set (x := x_3) (t := (214, 22, 36, 0, 0)) 0 hJ h0_x_3 (Or.inr hge_x_3) (by simp [Lt9])
  have hno_9 := jset_no (x := x_3) (t := (214, 22, 36, 0, 0)) 0 hno_9 (by decide)
  have g_x_3 := jset_self X x_3 (214, 22, 36, 0, 0) 0
  have gn_x_3 := jset_n X x_3 (214, 22, 36, 0, 0) 0
  have h0_a0 : ((jset X x_3 (214, 22, 36, 0, 0) 0).1 a0).2.1 = 0 := by rw [jset_ne X _ _ (Ne.symm hne_x_3_a0)]; exact h0_a0
  obtain ⟨X, hY9⟩ : ∃ Y9 : jG, Y9 = jset X x_3 (214, 22, 36, 0, 0) 0 := ⟨_, rfl⟩
  rw [← hY9] at hle9 hI hU hJ hno_9 g_x_3 gn_x_3 h0_a0
  clear hY9
  have g_x_1 := le_t hle9 g_x_1 (show (24 : Nat) ≠ 0 by decide)
  have g_x_2 := le_t hle9 g_x_2 (show (29 : Nat) ≠ 0 by decide)
  have hr0 : X.2.2.2 = 0 := by rw [hle9.2]; exact hr0
  clear hle9
  refine iz_putF (D := (dC, dI)) (ci := 9) (v := .ref x_3) (ty := .array .boolean) (C := RX9) (T := TX9) (N := 5) hx hb hts hinX9 tyX9 tyX9_ok nmX9 hown hK c_a0 hS hA0 rfl 4 (by decide) hL30 (fun _ h9 => h9) rfl hin rfl (by decide +kernel) rfl rfl (Nat.le_of_ble_eq_true rfl) dX9_init_37 (fun H locs c9 oq hS hz9 => ?_)
  clear hz9
  have hI := jv_skip hI h0_a0 oq
  have c_x_3 := c_x_3.kept (oq _ hne_x_3_a0)
  have c_a0 := c9
  clear oq c9
  have hleE := jset_le (X := X) (x := a0) (9, 30, 0, 0, 0) 0 h0_a0
  have hle9 := jset_le (X := X) (x := a0) (9, 30, 0, 0, 0) 0 h0_a0
  have hI := jv_new1 (t := (9, 30, 0, 0, 0)) (n := 0) hI h0_a0 trivial (fun q _ => rfl) c_a0 (jv_c9 ⟨x_1, x_2, 0, 0, x_3, rfl, le_t hleE g_x_1 (show (24 : Nat) ≠ 0 by decide), le_t hleE g_x_2 (show (29 : Nat) ≠ 0 by decide), ⟨by omega, by omega⟩, ⟨by omega, by omega⟩, le_t hleE g_x_3 (show (22 : Nat) ≠ 0 by decide), by omega, by omega, by rw [hleE.2, hr0]; rfl⟩)
  have hU := jset_U (x := a0) (t := (9, 30, 0, 0, 0)) 0 hU h0_a0 (fun _ => hno_9)
  have hJ := nw_set (x := a0) (t := (9, 30, 0, 0, 0)) 0 hJ h0_a0 (Or.inl rfl) (by simp [Lt9])
  have g_a0 := jset_self X a0 (9, 30, 0, 0, 0) 0
  have gn_a0 := jset_n X a0 (9, 30, 0, 0, 0) 0
  obtain ⟨X, hY9⟩ : ∃ Y9 : jG, Y9 = jset X a0 (9, 30, 0, 0, 0) 0 := ⟨_, rfl⟩
  rw [← hY9] at hle9 hI hU hJ g_a0 gn_a0
  clear hY9
  have hr0 : X.2.2.2 = 0 := by rw [hle9.2]; exact hr0
  have g_x_3 := le_t hle9 g_x_3 (show (22 : Nat) ≠ 0 by decide)
  clear hle9
  exact W.vret hx hb hr (fun t9 ht hW => ⟨⟨X, rfl, ⟨hJ, g_a0, hU⟩, jK_warm hW ⟨hK, hN⟩, by rw [ht]; exact ⟨hI, x_3, g_x_3, c_x_3⟩⟩, hS.F ht⟩) hS.2.2 dX9_init_40
set_option maxHeartbeats 4000000 in
set_option maxRecDepth 100000 in
theorem k_TreesZ (l : Launch) (dC : Nat → ClassId) (dI : Nat → Nat → Nat) (ca : Nat → ClassId) (X : jG) (hU : jU X) (a0 n0 : Nat) (h0_a0 : (X.1 a0).2.1 = 0) (hno_10 : ∀ q : Nat, X.1 q ≠ (10, 30, 0, 0, 0)) (hno_229 : ∀ q : Nat, X.1 q ≠ (229, 20, 36, -1, 5)) : Met l yX10_init wsX10_init ({ frames := 1, cells := 1, slots := 36, locals := 23 }) (va_Pc [.ref a0] (fun U => U.heap.size = n0 ∧ jK (dC, dI) ca U ∧ jv (dC, dI) ca (fun _ => True) X U.heap ∧ va_at (dC, dI) vwCl (a0, .inr (10, [.null, .null])) U.heap)) (va_Qv (fun (u : jG) => jnw X u a0 n0 (10, 30, 0, 0, 0) Lt10) (fun u U => jK (dC, dI) ca U ∧ jv (dC, dI) ca (fun _ => True) u U.heap ∧ ∃ (z8 : Nat) (fk : Nat → Int32), u.1 z8 = (229, 20, 36, -1, 5) ∧ (∀ j : Nat, j < 36 → fk j = kz (-1)) ∧ va_at (dC, dI) vwCl (z8, .inl (ca 20, 36, .inl fk)) U.heap) (jA a0 n0)) 1 36 (jA a0 n0) := by
  refine Met.ofW (cc := cX10_init) (maxL := 1) (ret := none) (by decide) rfl ?_
  intro p e s m args below meth c s₁ B hml hv
  obtain ⟨rfl, hsz, ⟨hK, hN⟩, hI, c_a0⟩ := hv
  have hx := B.exec
  have hb := B.bytes
  have hr := B.returns
  have hts := atoms_spec (ws := wsX10_init) B.pre
  have hown : s.vm.findClass RX10 = some m.cls := findClass_of_methodNamed B.named
  have hin : meth.name = "<init>" := (name_of_methodNamed B.named B.method).1
  have hL9 := hts (.fieldLink RX10 9 "JoinBench$Trees" "kinds" "[I") (by decide +kernel)
  have hL15 := hts (.fieldLink RX10 15 "JoinBench$Trees" "ways" "[[J") (by decide +kernel)
  have hinX10 : ∀ w ∈ u_ws RX10 TX10 2, w ∈ wsX10_init := by decide +kernel
  have hJ := nw_rf X a0 n0 Lt10
  generalize hAe : jA a0 n0 = A
  have hA : ∀ q : Nat, n0 ≤ q → A q := fun q h => by rw [← hAe]; exact Or.inr h
  have hA0 : A a0 := by rw [← hAe]; exact Or.inl rfl
  obtain ⟨H, hH⟩ : ∃ H : Heap, H = s.heap := ⟨_, rfl⟩
  have hS : va_S A s.heap H [] := by rw [hH]; exact va_S.rf
  have hzH : n0 ≤ H.size := by have h8 := hS.1; omega
  rw [← hH] at hI c_a0 ⊢
  clear hH
  have hl := lv_entry ([.ref a0]) (n := 1) (Nat.le_of_ble_eq_true rfl)
  rw [lg_entry_eq]
  generalize (lg_sl ([.ref a0]) ++ List.replicate (1 - (lg_sl ([.ref a0])).length) Slot.unset).toArray = ls at hl ⊢
  have hl : lv_has ls 1 [(0, .ref a0)] := hl
  refine lv_aload_n hx hb dX10_init_0 rfl (lv_at hl 0 rfl) ?_
  refine W.objInit hx hb hown (hts (.methodLink RX10 3 objectInit) (by decide +kernel)) (hts (.instanceMethod objectInit) (by decide +kernel)) (hts _ (List.mem_of_getElem? (i := 3) rfl)) rfl (by rw [hml]; exact hl.1) rfl dX10_init_1 (Nat.le_of_ble_eq_true rfl) (Nat.le_of_ble_eq_true rfl) ?_
  refine lv_aload_n hx hb dX10_init_4 rfl (lv_at hl 0 rfl) ?_
  refine lv_bipush (v := kz 36) hx hb dX10_init_5 (by decide) ?_
  have hzH : n0 ≤ H.size := by have h8 := hS.1; omega
  refine jz_newa (atype := .int) (ty := .int) (N := 36) hx hb (hts (.arrayClass .int) (by decide +kernel)) rfl hK 0 rfl hS (a0 := (36, .inl (fun _ => 0))) rfl (by decide) (by decide) (Nat.le_of_ble_eq_true rfl) (Nat.le_of_ble_eq_true rfl) dX10_init_7 (fun x_1 H hx9 c_x_1 oq hz9 hS => ?_)
  have h0_x_1 : (X.1 x_1).2.1 = 0 := jv_out hI (by omega)
  have hge_x_1 : n0 ≤ x_1 := by omega
  have hne_x_1_a0 : x_1 ≠ a0 := by have h9 := c_a0.lt; omega
  have c_a0 := c_a0.kept (oq _ c_a0.lt)
  have hI := jv_keep hI (fun q hq => oq q (jv_lt hI hq))
  clear oq hz9 hx9
  refine iz_putF (D := (dC, dI)) (ci := 10) (v := .ref x_1) (ty := .array .int) (C := RX10) (T := TX10) (N := 2) hx hb hts hinX10 tyX10 tyX10_ok nmX10 hown hK c_a0 hS hA0 rfl 0 (by decide) hL9 (fun _ h9 => h9) rfl hin rfl (by decide +kernel) rfl rfl (Nat.le_of_ble_eq_true rfl) dX10_init_9 (fun H locs c9 oq hS hz9 => ?_)
  clear hz9
  have hI := jv_skip hI h0_a0 oq
  have c_x_1 := c_x_1.kept (oq _ hne_x_1_a0)
  have c_a0 := c9
  clear oq c9
  refine lv_aload_n hx hb dX10_init_12 rfl (lv_at hl 0 rfl) ?_
  refine lv_null hx hb dX10_init_13 ?_
  refine iz_put (D := (dC, dI)) (ci := 10) (v := .null) (ty := .array (.array .long)) (C := RX10) (T := TX10) (N := 2) hx hb hts hinX10 tyX10 tyX10_ok nmX10 hown hK c_a0 hS hA0 rfl 1 (by decide) hL15 (fun _ h9 => h9) rfl (by decide +kernel) rfl rfl (Nat.le_of_ble_eq_true rfl) dX10_init_14 (fun H locs c9 oq hS => ?_)
  have hI := jv_skip hI h0_a0 oq
  have c_x_1 := c_x_1.kept (oq _ hne_x_1_a0)
  have c_a0 := c9
  clear oq c9
  refine lv_aload_n hx hb dX10_init_17 rfl (lv_at hl 0 rfl) ?_
  refine iz_get (D := (dC, dI)) (ci := 10) (v := .ref x_1) (C := RX10) (T := TX10) (N := 2) hx hb hts hinX10 hown hK c_a0 rfl 0 (by decide) hL9 (fun _ h9 => h9) rfl dX10_init_18 ?_
  refine lv_iconst (v := kz (-1)) hx hb dX10_init_21 rfl ?_
  have hzH : n0 ≤ H.size := by have h8 := hS.1; omega
  have hxl := c_x_1.lt
  refine va_callv (va_runS (As := [.ref x_1, .int (kz (-1))]) (rest := []) ⟨hx, hb, hml, hown, hts⟩ (k_fill l dC dI ca x_1 H.size (fun _ => 0) (-1)) (va_cwS 2 hts gX10_init_J7_fill_53178 rfl rfl rfl (by decide +kernel) ⟨Nat.le_of_ble_eq_true rfl, Nat.le_of_ble_eq_true rfl⟩) ⟨fun a U g mk q => by obtain ⟨q0, q1, ⟨qK, qN⟩, qI⟩ := q; exact ⟨q0, q1, ⟨va_K.moved (u := U) (U := U.calling g mk a) (Vm.Alike.refl U.vm) qK, jN_same (U := U.calling g mk a) rfl qN⟩, qI⟩, fun U hU9 hW => ⟨rfl, by rw [hU9], jK_warm hW ⟨hK, hN⟩, by rw [hU9]; exact c_x_1⟩⟩ rfl rfl hl.1 rfl (lv_room (Nat.le_of_ble_eq_true rfl)) dX10_init_22 ⟨(Nat.le_of_ble_eq_true rfl), (Nat.le_of_ble_eq_true rfl)⟩) hS (fun q h8 h9 => h9.elim (fun e9 => by rw [e9]; exact (hA _ hge_x_1)) (fun e9 => absurd e9 (by omega))) (fun q h9 => h9.elim (fun e9 => by rw [e9]; exact (hA _ hge_x_1)) (fun e9 => hA q (by omega))) (fun u9 t9 H locs ht hvm hfl hB hz1 hk1 hS => ?_)
  obtain ⟨-, c_x_1⟩ := hB
  rw [ht] at c_x_1
  clear ht hvm
  have hI := jv_keep hI (fun q hq => hk1 q (jv_lt hI hq) (fun e9 => e9.elim (fun e8 => hq (by rw [e8]; exact h0_x_1)) (fun e8 => absurd (jv_lt hI hq) (by omega))))
  have h9 := c_a0.lt
  have c_a0 := c_a0.kept (hk1 _ h9 (fun e9 => e9.elim (Ne.symm hne_x_1_a0) (fun e8 => absurd e8 (by omega))))
  clear hk1 hz1 hxl
  have hle9 := jset_le (X := X) (x := x_1) (229, 20, 36, -1, 5) 0 h0_x_1
  have hI := jv_new1 (t := (229, 20, 36, -1, 5)) (n := 0) hI h0_x_1 trivial (fun q _ => rfl) c_x_1 (jz_e20v hfl (by decide) (by decide))
  have hU := jset_U (x := x_1) (t := (229, 20, 36, -1, 5)) 0 hU h0_x_1 (fun _ => hno_229)
  have hJ := nw_set (x := x_1) (t := (229, 20, 36, -1, 5)) 0 hJ h0_x_1 (Or.inr hge_x_1) (by simp [Lt10])
  have hno_10 := jset_no (x := x_1) (t := (229, 20, 36, -1, 5)) 0 hno_10 (by decide)
  have g_x_1 := jset_self X x_1 (229, 20, 36, -1, 5) 0
  have gn_x_1 := jset_n X x_1 (229, 20, 36, -1, 5) 0
  have h0_a0 : ((jset X x_1 (229, 20, 36, -1, 5) 0).1 a0).2.1 = 0 := by rw [jset_ne X _ _ (Ne.symm hne_x_1_a0)]; exact h0_a0
  obtain ⟨X, hY9⟩ : ∃ Y9 : jG, Y9 = jset X x_1 (229, 20, 36, -1, 5) 0 := ⟨_, rfl⟩
  rw [← hY9] at hle9 hI hU hJ hno_10 g_x_1 gn_x_1 h0_a0
  clear hY9
  clear hle9
  have hleE := jset_le (X := X) (x := a0) (10, 30, 0, 0, 0) 0 h0_a0
  have hle9 := jset_le (X := X) (x := a0) (10, 30, 0, 0, 0) 0 h0_a0
  have hI := jv_new1 (t := (10, 30, 0, 0, 0)) (n := 0) hI h0_a0 trivial (fun q _ => rfl) c_a0 (jv_c10 ⟨x_1, none, rfl, le_t hleE g_x_1 (show (20 : Nat) ≠ 0 by decide), fun b9 q9 => (by cases q9)⟩)
  have hU := jset_U (x := a0) (t := (10, 30, 0, 0, 0)) 0 hU h0_a0 (fun _ => hno_10)
  have hJ := nw_set (x := a0) (t := (10, 30, 0, 0, 0)) 0 hJ h0_a0 (Or.inl rfl) (by simp [Lt10])
  have g_a0 := jset_self X a0 (10, 30, 0, 0, 0) 0
  have gn_a0 := jset_n X a0 (10, 30, 0, 0, 0) 0
  obtain ⟨X, hY9⟩ : ∃ Y9 : jG, Y9 = jset X a0 (10, 30, 0, 0, 0) 0 := ⟨_, rfl⟩
  rw [← hY9] at hle9 hI hU hJ g_a0 gn_a0
  clear hY9
  have g_x_1 := le_t hle9 g_x_1 (show (20 : Nat) ≠ 0 by decide)
  clear hle9
  exact W.vret hx hb hr (fun t9 ht hW => ⟨⟨X, rfl, ⟨hJ, g_a0, hU⟩, jK_warm hW ⟨hK, hN⟩, by rw [ht]; exact ⟨hI, x_1, u9, g_x_1, hfl, c_x_1⟩⟩, hS.F ht⟩) hS.2.2 dX10_init_25
set_option maxHeartbeats 4000000 in
set_option maxRecDepth 100000 in
theorem k_JoinBenchZ (l : Launch) (dC : Nat → ClassId) (dI : Nat → Nat → Nat) (ca : Nat → ClassId) (X : jG) (hU : jU X) (a0 n0 : Nat) (h0_a0 : (X.1 a0).2.1 = 0) (hr0 : X.2.2.2 = 0) (ge_a0 : X.1 a0 = (999, 0, 0, 0, 0)) (hno_8 : ∀ q : Nat, X.1 q ≠ (8, 30, 0, 0, 0)) (hno_200 : ∀ q : Nat, X.1 q ≠ (200, 21, 60, 0, 0)) (hno_9 : ∀ q : Nat, X.1 q ≠ (9, 30, 0, 0, 0)) (hno_212 : ∀ q : Nat, X.1 q ≠ (212, 24, 40, 2, 0)) (hno_213 : ∀ q : Nat, X.1 q ≠ (213, 29, 24, 7, 0)) (hno_214 : ∀ q : Nat, X.1 q ≠ (214, 22, 36, 0, 0)) (hno_6 : ∀ q : Nat, X.1 q ≠ (6, 30, 0, 0, 0)) (hno_203 : ∀ q : Nat, X.1 q ≠ (203, 21, 480, 0, 0)) (hno_0 : ∀ q : Nat, X.1 q ≠ (0, 30, (16 : Nat), 0, 0)) (hno_210 : ∀ q : Nat, X.1 q ≠ (210, 24, 40, 2, ((16 : Nat) : Int))) (hno_211 : ∀ q : Nat, X.1 q ≠ (211, 25, 40, 7, ((16 : Nat) : Int))) (hno_10 : ∀ q : Nat, X.1 q ≠ (10, 30, 0, 0, 0)) (hno_229 : ∀ q : Nat, X.1 q ≠ (229, 20, 36, -1, 5)) (hno_1 : ∀ q : Nat, X.1 q ≠ (1, 30, 0, 0, 0)) (hno_215 : ∀ q : Nat, X.1 q ≠ (215, 20, 20, -2147483648, 2147483647)) (hno_216 : ∀ q : Nat, X.1 q ≠ (216, 27, 30, 230, 40)) (hno_217 : ∀ q : Nat, X.1 q ≠ (217, 27, 30, 231, 20)) (hno_218 : ∀ q : Nat, X.1 q ≠ (218, 20, 30, 0, 40)) : Met l yX11_init wsX11_init ({ frames := 3, cells := 78, slots := 2688, locals := 52 }) (va_Pc [.ref a0] (fun U => U.heap.size = n0 ∧ jK (dC, dI) ca U ∧ jv (dC, dI) ca (fun _ => True) X U.heap ∧ va_at (dC, dI) vwCl (a0, .inr (11, [.null, .null, .null, .null, .null, .null, .int (kz 0)])) U.heap)) (va_Qv (fun (u : jG) => jnw0 X u a0 n0 Ljb ∧ jU u ∧ u.1 a0 = (999, 0, 0, 0, 0)) (fun u U => jK (dC, dI) ca U ∧ jv (dC, dI) ca (fun _ => True) u U.heap ∧ ∃ t1 t2 t3 t4 t5 : Nat, u.1 t1 = (8, 30, 0, 0, 0) ∧ u.1 t2 = (9, 30, 0, 0, 0) ∧ u.1 t3 = (6, 30, 0, 0, 0) ∧ u.1 t4 = (10, 30, 0, 0, 0) ∧ u.1 t5 = (1, 30, 0, 0, 0) ∧ va_at (dC, dI) vwCl (a0, .inr (11, [.ref t1, .ref t2, .ref t3, .ref t4, .ref t5, .null, .int (kz 1)])) U.heap ∧ (∃ z9 : Nat, u.1 z9 = (214, 22, 36, 0, 0) ∧ va_at (dC, dI) vwCl (z9, .inl (ca 22, 36, .inl (fun _ => 0))) U.heap) ∧ ∃ (z8 : Nat) (fk : Nat → Int32), u.1 z8 = (229, 20, 36, -1, 5) ∧ (∀ j : Nat, j < 36 → fk j = kz (-1)) ∧ va_at (dC, dI) vwCl (z8, .inl (ca 20, 36, .inl fk)) U.heap) (jA a0 n0)) 78 2688 (jA a0 n0) := by
  refine Met.ofW (cc := cX11_init) (maxL := 1) (ret := none) (by decide) rfl ?_
  intro p e s m args below meth c s₁ B hml hv
  obtain ⟨rfl, hsz, ⟨hK, hN⟩, hI, c_a0⟩ := hv
  have hx := B.exec
  have hb := B.bytes
  have hr := B.returns
  have hts := atoms_spec (ws := wsX11_init) B.pre
  have hown : s.vm.findClass RX11 = some m.cls := findClass_of_methodNamed B.named
  have hin : meth.name = "<init>" := (name_of_methodNamed B.named B.method).1
  have hL12 := hts (.fieldLink RX11 12 "JoinBench" "tape" "LJoinBench$Tape;") (by decide +kernel)
  have hL19 := hts (.fieldLink RX11 19 "JoinBench" "tongue" "LJoinBench$Tongue;") (by decide +kernel)
  have hL26 := hts (.fieldLink RX11 26 "JoinBench" "row" "LJoinBench$Row;") (by decide +kernel)
  have hL33 := hts (.fieldLink RX11 33 "JoinBench" "trees" "LJoinBench$Trees;") (by decide +kernel)
  have hL40 := hts (.fieldLink RX11 40 "JoinBench" "choices" "LJoinBench$Choices;") (by decide +kernel)
  have hL44 := hts (.fieldLink RX11 44 "JoinBench" "parter" "LJoinBench$Parter;") (by decide +kernel)
  have hL48 := hts (.fieldLink RX11 48 "JoinBench" "step" "I") (by decide +kernel)
  have hinX11 : ∀ w ∈ u_ws RX11 TX11 7, w ∈ wsX11_init := by decide +kernel
  have hJ := nw_rf X a0 n0 Ljb
  generalize hAe : jA a0 n0 = A
  have hA : ∀ q : Nat, n0 ≤ q → A q := fun q h => by rw [← hAe]; exact Or.inr h
  have hA0 : A a0 := by rw [← hAe]; exact Or.inl rfl
  obtain ⟨H, hH⟩ : ∃ H : Heap, H = s.heap := ⟨_, rfl⟩
  have hS : va_S A s.heap H [] := by rw [hH]; exact va_S.rf
  have hzH : n0 ≤ H.size := by have h8 := hS.1; omega
  rw [← hH] at hI c_a0 ⊢
  clear hH
  have hl := lv_entry ([.ref a0]) (n := 1) (Nat.le_of_ble_eq_true rfl)
  rw [lg_entry_eq]
  generalize (lg_sl ([.ref a0]) ++ List.replicate (1 - (lg_sl ([.ref a0])).length) Slot.unset).toArray = ls at hl ⊢
  have hl : lv_has ls 1 [(0, .ref a0)] := hl
  refine lv_aload_n hx hb dX11_init_0 rfl (lv_at hl 0 rfl) ?_
  refine W.objInit hx hb hown (hts (.methodLink RX11 3 objectInit) (by decide +kernel)) (hts (.instanceMethod objectInit) (by decide +kernel)) (hts _ (List.mem_of_getElem? (i := 3) rfl)) rfl (by rw [hml]; exact hl.1) rfl dX11_init_1 (Nat.le_of_ble_eq_true rfl) (Nat.le_of_ble_eq_true rfl) ?_
  refine lv_aload_n hx hb dX11_init_4 rfl (lv_at hl 0 rfl) ?_
  have hzH : n0 ≤ H.size := by have h8 := hS.1; omega
  refine jz_new (ci := 8) (fs := [.null, .int (kz 0)]) (C := RX8) (T := TX8) (N := 2) hx hb hts (by decide +kernel) tyX8 tyX8_ok hown (hts (.classLink RX11 9 RX8) (by decide +kernel)) (hts (.instantiable RX8 2) (by decide +kernel)) (hts (.initialized RX8) (by decide +kernel)) hK hS rfl (fun j hj => by rcases (show j = 0 ∨ j = 1 by omega) with rfl | rfl <;> rfl) (Nat.le_of_ble_eq_true rfl) (Nat.le_of_ble_eq_true rfl) dX11_init_5 (fun x_1 H hx9 c_x_1 oq hz9 hS => ?_)
  have h0_x_1 : (X.1 x_1).2.1 = 0 := jv_out hI (by omega)
  have hge_x_1 : n0 ≤ x_1 := by omega
  have hne_x_1_a0 : x_1 ≠ a0 := by have h9 := c_a0.lt; omega
  have c_a0 := c_a0.kept (oq _ c_a0.lt)
  have hI := jv_keep hI (fun q hq => oq q (jv_lt hI hq))
  clear oq hz9 hx9
  refine lv_dup hx hb dX11_init_8 rfl ?_
  have hzH : n0 ≤ H.size := by have h8 := hS.1; omega
  have hxl := c_x_1.lt
  refine va_callv (va_runIN (As := []) (rest := [.ref x_1, .ref a0]) ⟨hx, hb, hml, hown, hts⟩ (k_Tape l dC dI ca X hU x_1 H.size h0_x_1 hno_8 hno_200) ⟨va_cnB 0 hts gX11_init_X8_init_n11 rfl rfl rfl (jN_X11_11 hN) (hts (.initialized RX8) (by decide +kernel)) (by decide +kernel) ⟨Nat.le_of_ble_eq_true rfl, Nat.le_of_ble_eq_true rfl⟩, rfl, (hts (.instanceMethod yX8_init) (by decide +kernel))⟩ ⟨fun a U g mk q => by obtain ⟨q0, q1, ⟨qK, qN⟩, qI⟩ := q; exact ⟨q0, q1, ⟨va_K.moved (u := U) (U := U.calling g mk a) (Vm.Alike.refl U.vm) qK, jN_same (U := U.calling g mk a) rfl qN⟩, qI⟩, fun U hU9 hW => ⟨rfl, by rw [hU9], jK_warm hW ⟨hK, hN⟩, by rw [hU9]; exact ⟨jv_A2 hI (fun _ _ => trivial), c_x_1⟩⟩⟩ rfl rfl hl.1 rfl (lv_room (Nat.le_of_ble_eq_true rfl)) dX11_init_9 ⟨(Nat.le_of_ble_eq_true rfl), (Nat.le_of_ble_eq_true rfl)⟩) hS (fun q h8 h9 => h9.elim (fun e9 => by rw [e9]; exact (hA _ hge_x_1)) (fun e9 => absurd e9 (by omega))) (fun q h9 => h9.elim (fun e9 => by rw [e9]; exact (hA _ hge_x_1)) (fun e9 => hA q (by omega))) (fun X t9 H locs ht hvm hw_2 hB hz1 hk1 hS => ?_)
  obtain ⟨hw_2, hw_2g, hU⟩ := hw_2
  obtain ⟨-, hI⟩ := hB
  rw [ht] at hI
  clear ht hvm
  have hle9 := nw_le hw_2
  have h9 := c_a0.lt
  have c_a0 := c_a0.kept (hk1 _ h9 (fun e9 => e9.elim (Ne.symm hne_x_1_a0) (fun e8 => absurd e8 (by omega))))
  have h8_a0 := nw_0 hw_2 h0_a0 (Ne.symm hne_x_1_a0) h9
  have ge_a0 := (nw_eq hw_2 (Ne.symm hne_x_1_a0) h9).trans ge_a0
  have h0_a0 := h8_a0
  have hno_9 := nw_no hw_2 hno_9 (by decide)
  have hno_212 := nw_no hw_2 hno_212 (by decide)
  have hno_213 := nw_no hw_2 hno_213 (by decide)
  have hno_214 := nw_no hw_2 hno_214 (by decide)
  have hno_6 := nw_no hw_2 hno_6 (by decide)
  have hno_203 := nw_no hw_2 hno_203 (by decide)
  have hno_0 := nw_no hw_2 hno_0 (by simp [Lt8])
  have hno_210 := nw_no hw_2 hno_210 (by simp [Lt8])
  have hno_211 := nw_no hw_2 hno_211 (by simp [Lt8])
  have hno_10 := nw_no hw_2 hno_10 (by decide)
  have hno_229 := nw_no hw_2 hno_229 (by decide)
  have hno_1 := nw_no hw_2 hno_1 (by decide)
  have hno_215 := nw_no hw_2 hno_215 (by decide)
  have hno_216 := nw_no hw_2 hno_216 (by decide)
  have hno_217 := nw_no hw_2 hno_217 (by decide)
  have hno_218 := nw_no hw_2 hno_218 (by decide)
  have hJ := nw_tr hJ hw_2 (Or.inr hge_x_1) hzH (fun c hc => by simp only [Ljb, List.mem_append]; simp [hc])
  have hr0 : X.2.2.2 = 0 := by rw [hle9.2]; exact hr0
  clear hle9 hxl hk1 hz1
  have g_x_1 := hw_2g
  refine iz_putF (D := (dC, dI)) (ci := 11) (v := .ref x_1) (ty := .object "JoinBench$Tape") (C := RX11) (T := TX11) (N := 7) hx hb hts hinX11 tyX11 tyX11_ok nmX11 hown hK c_a0 hS hA0 rfl 0 (by decide) hL12 (fun _ h9 => h9) rfl hin rfl (by decide +kernel) rfl rfl (Nat.le_of_ble_eq_true rfl) dX11_init_12 (fun H locs c9 oq hS hz9 => ?_)
  clear hz9
  have hI := jv_skip hI h0_a0 oq
  have c_a0 := c9
  clear oq c9
  refine lv_aload_n hx hb dX11_init_15 rfl (lv_at hl 0 rfl) ?_
  have hzH : n0 ≤ H.size := by have h8 := hS.1; omega
  refine jz_new (ci := 9) (fs := [.null, .null, .int (kz 0), .int (kz 0), .null]) (C := RX9) (T := TX9) (N := 5) hx hb hts (by decide +kernel) tyX9 tyX9_ok hown (hts (.classLink RX11 16 RX9) (by decide +kernel)) (hts (.instantiable RX9 5) (by decide +kernel)) (hts (.initialized RX9) (by decide +kernel)) hK hS rfl (fun j hj => by rcases (show j = 0 ∨ j = 1 ∨ j = 2 ∨ j = 3 ∨ j = 4 by omega) with rfl | rfl | rfl | rfl | rfl <;> rfl) (Nat.le_of_ble_eq_true rfl) (Nat.le_of_ble_eq_true rfl) dX11_init_16 (fun x_3 H hx9 c_x_3 oq hz9 hS => ?_)
  have h0_x_3 : (X.1 x_3).2.1 = 0 := jv_out hI (by omega)
  have hge_x_3 : n0 ≤ x_3 := by omega
  have hne_x_3_a0 : x_3 ≠ a0 := by have h9 := c_a0.lt; omega
  have c_a0 := c_a0.kept (oq _ c_a0.lt)
  have hI := jv_keep hI (fun q hq => oq q (jv_lt hI hq))
  clear oq hz9 hx9
  refine lv_dup hx hb dX11_init_19 rfl ?_
  have hzH : n0 ≤ H.size := by have h8 := hS.1; omega
  have hxl := c_x_3.lt
  refine va_callv (va_runIN (As := []) (rest := [.ref x_3, .ref a0]) ⟨hx, hb, hml, hown, hts⟩ (k_TongueZ l dC dI ca X hU x_3 H.size h0_x_3 hr0 hno_9 hno_212 hno_213 hno_214) ⟨va_cnB 0 hts gX11_init_X9_init_n18 rfl rfl rfl (jN_X11_18 hN) (hts (.initialized RX9) (by decide +kernel)) (by decide +kernel) ⟨Nat.le_of_ble_eq_true rfl, Nat.le_of_ble_eq_true rfl⟩, rfl, (hts (.instanceMethod yX9_init) (by decide +kernel))⟩ ⟨fun a U g mk q => by obtain ⟨q0, q1, ⟨qK, qN⟩, qI⟩ := q; exact ⟨q0, q1, ⟨va_K.moved (u := U) (U := U.calling g mk a) (Vm.Alike.refl U.vm) qK, jN_same (U := U.calling g mk a) rfl qN⟩, qI⟩, fun U hU9 hW => ⟨rfl, by rw [hU9], jK_warm hW ⟨hK, hN⟩, by rw [hU9]; exact ⟨jv_A2 hI (fun _ _ => trivial), c_x_3⟩⟩⟩ rfl rfl hl.1 rfl (lv_room (Nat.le_of_ble_eq_true rfl)) dX11_init_20 ⟨(Nat.le_of_ble_eq_true rfl), (Nat.le_of_ble_eq_true rfl)⟩) hS (fun q h8 h9 => h9.elim (fun e9 => by rw [e9]; exact (hA _ hge_x_3)) (fun e9 => absurd e9 (by omega))) (fun q h9 => h9.elim (fun e9 => by rw [e9]; exact (hA _ hge_x_3)) (fun e9 => hA q (by omega))) (fun X t9 H locs ht hvm hw_4 hB hz1 hk1 hS => ?_)
  obtain ⟨hw_4, hw_4g, hU⟩ := hw_4
  obtain ⟨-, hI, zt, g_zt9, c_zt9⟩ := hB
  rw [ht] at hI c_zt9
  clear ht hvm
  have hle9 := nw_le hw_4
  have h9 := c_a0.lt
  have c_a0 := c_a0.kept (hk1 _ h9 (fun e9 => e9.elim (Ne.symm hne_x_3_a0) (fun e8 => absurd e8 (by omega))))
  have h8_a0 := nw_0 hw_4 h0_a0 (Ne.symm hne_x_3_a0) h9
  have ge_a0 := (nw_eq hw_4 (Ne.symm hne_x_3_a0) h9).trans ge_a0
  have h0_a0 := h8_a0
  have hno_6 := nw_no hw_4 hno_6 (by decide)
  have hno_203 := nw_no hw_4 hno_203 (by decide)
  have hno_0 := nw_no hw_4 hno_0 (by simp [Lt9])
  have hno_210 := nw_no hw_4 hno_210 (by simp [Lt9])
  have hno_211 := nw_no hw_4 hno_211 (by simp [Lt9])
  have hno_10 := nw_no hw_4 hno_10 (by decide)
  have hno_229 := nw_no hw_4 hno_229 (by decide)
  have hno_1 := nw_no hw_4 hno_1 (by decide)
  have hno_215 := nw_no hw_4 hno_215 (by decide)
  have hno_216 := nw_no hw_4 hno_216 (by decide)
  have hno_217 := nw_no hw_4 hno_217 (by decide)
  have hno_218 := nw_no hw_4 hno_218 (by decide)
  have hJ := nw_tr hJ hw_4 (Or.inr hge_x_3) hzH (fun c hc => by simp only [Ljb, List.mem_append]; simp [hc])
  have g_x_1 := le_t hle9 g_x_1 (show (30 : Nat) ≠ 0 by decide)
  have hr0 : X.2.2.2 = 0 := by rw [hle9.2]; exact hr0
  clear hle9 hxl hk1 hz1
  have g_zt := g_zt9
  have c_zt := c_zt9
  have g_x_3 := hw_4g
  refine iz_putF (D := (dC, dI)) (ci := 11) (v := .ref x_3) (ty := .object "JoinBench$Tongue") (C := RX11) (T := TX11) (N := 7) hx hb hts hinX11 tyX11 tyX11_ok nmX11 hown hK c_a0 hS hA0 rfl 1 (by decide) hL19 (fun _ h9 => h9) rfl hin rfl (by decide +kernel) rfl rfl (Nat.le_of_ble_eq_true rfl) dX11_init_23 (fun H locs c9 oq hS hz9 => ?_)
  clear hz9
  have hI := jv_skip hI h0_a0 oq
  have c_zt := c_zt.kept (oq _ (kn_ne0 g_zt h0_a0 (show (22 : Nat) ≠ 0 by decide)))
  have c_a0 := c9
  clear oq c9
  refine lv_aload_n hx hb dX11_init_26 rfl (lv_at hl 0 rfl) ?_
  have hzH : n0 ≤ H.size := by have h8 := hS.1; omega
  refine jz_new (ci := 6) (fs := [.null, .null, .int (kz 0), .int (kz 0)]) (C := RX6) (T := TX6) (N := 4) hx hb hts (by decide +kernel) tyX6 tyX6_ok hown (hts (.classLink RX11 23 RX6) (by decide +kernel)) (hts (.instantiable RX6 4) (by decide +kernel)) (hts (.initialized RX6) (by decide +kernel)) hK hS rfl (fun j hj => by rcases (show j = 0 ∨ j = 1 ∨ j = 2 ∨ j = 3 by omega) with rfl | rfl | rfl | rfl <;> rfl) (Nat.le_of_ble_eq_true rfl) (Nat.le_of_ble_eq_true rfl) dX11_init_27 (fun x_5 H hx9 c_x_5 oq hz9 hS => ?_)
  have h0_x_5 : (X.1 x_5).2.1 = 0 := jv_out hI (by omega)
  have hge_x_5 : n0 ≤ x_5 := by omega
  have hne_x_5_a0 : x_5 ≠ a0 := by have h9 := c_a0.lt; omega
  have c_a0 := c_a0.kept (oq _ c_a0.lt)
  have c_zt := c_zt.kept (oq _ c_zt.lt)
  have hI := jv_keep hI (fun q hq => oq q (jv_lt hI hq))
  clear oq hz9 hx9
  refine lv_dup hx hb dX11_init_30 rfl ?_
  have hzH : n0 ≤ H.size := by have h8 := hS.1; omega
  have hxl := c_x_5.lt
  refine va_callv (va_runIN (As := []) (rest := [.ref x_5, .ref a0]) ⟨hx, hb, hml, hown, hts⟩ (k_Row l dC dI ca X hU x_5 H.size h0_x_5 hno_6 hno_203 hno_0 hno_210 hno_211) ⟨va_cnB 0 hts gX11_init_X6_init_n25 rfl rfl rfl (jN_X11_25 hN) (hts (.initialized RX6) (by decide +kernel)) (by decide +kernel) ⟨Nat.le_of_ble_eq_true rfl, Nat.le_of_ble_eq_true rfl⟩, rfl, (hts (.instanceMethod yX6_init) (by decide +kernel))⟩ ⟨fun a U g mk q => by obtain ⟨q0, q1, ⟨qK, qN⟩, qI⟩ := q; exact ⟨q0, q1, ⟨va_K.moved (u := U) (U := U.calling g mk a) (Vm.Alike.refl U.vm) qK, jN_same (U := U.calling g mk a) rfl qN⟩, qI⟩, fun U hU9 hW => ⟨rfl, by rw [hU9], jK_warm hW ⟨hK, hN⟩, by rw [hU9]; exact ⟨jv_A2 hI (fun _ _ => trivial), c_x_5⟩⟩⟩ rfl rfl hl.1 rfl (lv_room (Nat.le_of_ble_eq_true rfl)) dX11_init_31 ⟨(Nat.le_of_ble_eq_true rfl), (Nat.le_of_ble_eq_true rfl)⟩) hS (fun q h8 h9 => h9.elim (fun e9 => by rw [e9]; exact (hA _ hge_x_5)) (fun e9 => absurd e9 (by omega))) (fun q h9 => h9.elim (fun e9 => by rw [e9]; exact (hA _ hge_x_5)) (fun e9 => hA q (by omega))) (fun X t9 H locs ht hvm hw_6 hB hz1 hk1 hS => ?_)
  obtain ⟨hw_6, hw_6g, hU⟩ := hw_6
  obtain ⟨-, hI⟩ := hB
  rw [ht] at hI
  clear ht hvm
  have hle9 := nw_le hw_6
  have h9 := c_a0.lt
  have c_a0 := c_a0.kept (hk1 _ h9 (fun e9 => e9.elim (Ne.symm hne_x_5_a0) (fun e8 => absurd e8 (by omega))))
  have h9z := c_zt.lt
  have c_zt := c_zt.kept (hk1 _ h9z (fun e9 => e9.elim (kn_ne0 g_zt h0_x_5 (show (22 : Nat) ≠ 0 by decide)) (fun e8 => absurd e8 (by omega))))
  have h8_a0 := nw_0 hw_6 h0_a0 (Ne.symm hne_x_5_a0) h9
  have ge_a0 := (nw_eq hw_6 (Ne.symm hne_x_5_a0) h9).trans ge_a0
  have h0_a0 := h8_a0
  have hno_10 := nw_no hw_6 hno_10 (by decide)
  have hno_229 := nw_no hw_6 hno_229 (by decide)
  have hno_1 := nw_no hw_6 hno_1 (by decide)
  have hno_215 := nw_no hw_6 hno_215 (by decide)
  have hno_216 := nw_no hw_6 hno_216 (by decide)
  have hno_217 := nw_no hw_6 hno_217 (by decide)
  have hno_218 := nw_no hw_6 hno_218 (by decide)
  have hJ := nw_tr hJ hw_6 (Or.inr hge_x_5) hzH (fun c hc => by simp only [Ljb, List.mem_append]; simp [hc])
  have g_x_1 := le_t hle9 g_x_1 (show (30 : Nat) ≠ 0 by decide)
  have g_x_3 := le_t hle9 g_x_3 (show (30 : Nat) ≠ 0 by decide)
  have hr0 : X.2.2.2 = 0 := by rw [hle9.2]; exact hr0
  have g_zt := le_t hle9 g_zt (show (22 : Nat) ≠ 0 by decide)
  clear hle9 hxl hk1 hz1
  have g_x_5 := hw_6g
  refine iz_putF (D := (dC, dI)) (ci := 11) (v := .ref x_5) (ty := .object "JoinBench$Row") (C := RX11) (T := TX11) (N := 7) hx hb hts hinX11 tyX11 tyX11_ok nmX11 hown hK c_a0 hS hA0 rfl 2 (by decide) hL26 (fun _ h9 => h9) rfl hin rfl (by decide +kernel) rfl rfl (Nat.le_of_ble_eq_true rfl) dX11_init_34 (fun H locs c9 oq hS hz9 => ?_)
  clear hz9
  have hI := jv_skip hI h0_a0 oq
  have c_zt := c_zt.kept (oq _ (kn_ne0 g_zt h0_a0 (show (22 : Nat) ≠ 0 by decide)))
  have c_a0 := c9
  clear oq c9
  refine lv_aload_n hx hb dX11_init_37 rfl (lv_at hl 0 rfl) ?_
  have hzH : n0 ≤ H.size := by have h8 := hS.1; omega
  refine jz_new (ci := 10) (fs := [.null, .null]) (C := RX10) (T := TX10) (N := 2) hx hb hts (by decide +kernel) tyX10 tyX10_ok hown (hts (.classLink RX11 30 RX10) (by decide +kernel)) (hts (.instantiable RX10 2) (by decide +kernel)) (hts (.initialized RX10) (by decide +kernel)) hK hS rfl (fun j hj => by rcases (show j = 0 ∨ j = 1 by omega) with rfl | rfl <;> rfl) (Nat.le_of_ble_eq_true rfl) (Nat.le_of_ble_eq_true rfl) dX11_init_38 (fun x_7 H hx9 c_x_7 oq hz9 hS => ?_)
  have h0_x_7 : (X.1 x_7).2.1 = 0 := jv_out hI (by omega)
  have hge_x_7 : n0 ≤ x_7 := by omega
  have hne_x_7_a0 : x_7 ≠ a0 := by have h9 := c_a0.lt; omega
  have c_a0 := c_a0.kept (oq _ c_a0.lt)
  have c_zt := c_zt.kept (oq _ c_zt.lt)
  have hI := jv_keep hI (fun q hq => oq q (jv_lt hI hq))
  clear oq hz9 hx9
  refine lv_dup hx hb dX11_init_41 rfl ?_
  have hzH : n0 ≤ H.size := by have h8 := hS.1; omega
  have hxl := c_x_7.lt
  refine va_callv (va_runI (As := []) (rest := [.ref x_7, .ref a0]) ⟨hx, hb, hml, hown, hts⟩ (k_TreesZ l dC dI ca X hU x_7 H.size h0_x_7 hno_10 hno_229) (cwI 0 hts gX11_init_X10_init rfl rfl rfl (hts (.initialized RX10) (by decide +kernel)) (hts (.methodLink RX11 32 yX10_init) (by decide +kernel)) (hts (.instanceMethod yX10_init) (by decide +kernel)) rfl (by decide +kernel) ⟨Nat.le_of_ble_eq_true rfl, Nat.le_of_ble_eq_true rfl⟩) ⟨fun a U g mk q => by obtain ⟨q0, q1, ⟨qK, qN⟩, qI⟩ := q; exact ⟨q0, q1, ⟨va_K.moved (u := U) (U := U.calling g mk a) (Vm.Alike.refl U.vm) qK, jN_same (U := U.calling g mk a) rfl qN⟩, qI⟩, fun U hU9 hW => ⟨rfl, by rw [hU9], jK_warm hW ⟨hK, hN⟩, by rw [hU9]; exact ⟨jv_A2 hI (fun _ _ => trivial), c_x_7⟩⟩⟩ rfl rfl hl.1 rfl (lv_room (Nat.le_of_ble_eq_true rfl)) dX11_init_42 ⟨(Nat.le_of_ble_eq_true rfl), (Nat.le_of_ble_eq_true rfl)⟩) hS (fun q h8 h9 => h9.elim (fun e9 => by rw [e9]; exact (hA _ hge_x_7)) (fun e9 => absurd e9 (by omega))) (fun q h9 => h9.elim (fun e9 => by rw [e9]; exact (hA _ hge_x_7)) (fun e9 => hA q (by omega))) (fun X t9 H locs ht hvm hw_8 hB hz1 hk1 hS => ?_)
  obtain ⟨hw_8, hw_8g, hU⟩ := hw_8
  obtain ⟨-, hI, zk, fk, g_zk9, hfk, c_zk9⟩ := hB
  rw [ht] at hI c_zk9
  clear ht hvm
  have hle9 := nw_le hw_8
  have h9 := c_a0.lt
  have c_a0 := c_a0.kept (hk1 _ h9 (fun e9 => e9.elim (Ne.symm hne_x_7_a0) (fun e8 => absurd e8 (by omega))))
  have h9z := c_zt.lt
  have c_zt := c_zt.kept (hk1 _ h9z (fun e9 => e9.elim (kn_ne0 g_zt h0_x_7 (show (22 : Nat) ≠ 0 by decide)) (fun e8 => absurd e8 (by omega))))
  have h8_a0 := nw_0 hw_8 h0_a0 (Ne.symm hne_x_7_a0) h9
  have ge_a0 := (nw_eq hw_8 (Ne.symm hne_x_7_a0) h9).trans ge_a0
  have h0_a0 := h8_a0
  have hno_1 := nw_no hw_8 hno_1 (by decide)
  have hno_215 := nw_no hw_8 hno_215 (by decide)
  have hno_216 := nw_no hw_8 hno_216 (by decide)
  have hno_217 := nw_no hw_8 hno_217 (by decide)
  have hno_218 := nw_no hw_8 hno_218 (by decide)
  have hJ := nw_tr hJ hw_8 (Or.inr hge_x_7) hzH (fun c hc => by simp only [Ljb, List.mem_append]; simp [hc])
  have g_x_1 := le_t hle9 g_x_1 (show (30 : Nat) ≠ 0 by decide)
  have g_x_3 := le_t hle9 g_x_3 (show (30 : Nat) ≠ 0 by decide)
  have g_x_5 := le_t hle9 g_x_5 (show (30 : Nat) ≠ 0 by decide)
  have hr0 : X.2.2.2 = 0 := by rw [hle9.2]; exact hr0
  have g_zt := le_t hle9 g_zt (show (22 : Nat) ≠ 0 by decide)
  clear hle9 hxl hk1 hz1
  have g_zk := g_zk9
  have c_zk := c_zk9
  have g_x_7 := hw_8g
  refine iz_putF (D := (dC, dI)) (ci := 11) (v := .ref x_7) (ty := .object "JoinBench$Trees") (C := RX11) (T := TX11) (N := 7) hx hb hts hinX11 tyX11 tyX11_ok nmX11 hown hK c_a0 hS hA0 rfl 3 (by decide) hL33 (fun _ h9 => h9) rfl hin rfl (by decide +kernel) rfl rfl (Nat.le_of_ble_eq_true rfl) dX11_init_45 (fun H locs c9 oq hS hz9 => ?_)
  clear hz9
  have hI := jv_skip hI h0_a0 oq
  have c_zt := c_zt.kept (oq _ (kn_ne0 g_zt h0_a0 (show (22 : Nat) ≠ 0 by decide)))
  have c_zk := c_zk.kept (oq _ (kn_ne0 g_zk h0_a0 (show (20 : Nat) ≠ 0 by decide)))
  have c_a0 := c9
  clear oq c9
  refine lv_aload_n hx hb dX11_init_48 rfl (lv_at hl 0 rfl) ?_
  have hzH : n0 ≤ H.size := by have h8 := hS.1; omega
  refine jz_new (ci := 1) (fs := [.null, .int (kz 0), .null, .null, .null, .int (kz 0)]) (C := RX1) (T := TX1) (N := 6) hx hb hts (by decide +kernel) tyX1 tyX1_ok hown (hts (.classLink RX11 37 RX1) (by decide +kernel)) (hts (.instantiable RX1 6) (by decide +kernel)) (hts (.initialized RX1) (by decide +kernel)) hK hS rfl (fun j hj => by rcases (show j = 0 ∨ j = 1 ∨ j = 2 ∨ j = 3 ∨ j = 4 ∨ j = 5 by omega) with rfl | rfl | rfl | rfl | rfl | rfl <;> rfl) (Nat.le_of_ble_eq_true rfl) (Nat.le_of_ble_eq_true rfl) dX11_init_49 (fun x_9 H hx9 c_x_9 oq hz9 hS => ?_)
  have h0_x_9 : (X.1 x_9).2.1 = 0 := jv_out hI (by omega)
  have hge_x_9 : n0 ≤ x_9 := by omega
  have hne_x_9_a0 : x_9 ≠ a0 := by have h9 := c_a0.lt; omega
  have c_a0 := c_a0.kept (oq _ c_a0.lt)
  have c_zt := c_zt.kept (oq _ c_zt.lt)
  have c_zk := c_zk.kept (oq _ c_zk.lt)
  have hI := jv_keep hI (fun q hq => oq q (jv_lt hI hq))
  clear oq hz9 hx9
  refine lv_dup hx hb dX11_init_52 rfl ?_
  have hzH : n0 ≤ H.size := by have h8 := hS.1; omega
  have hxl := c_x_9.lt
  refine va_callv (va_runIN (As := []) (rest := [.ref x_9, .ref a0]) ⟨hx, hb, hml, hown, hts⟩ (k_Choices l dC dI ca X hU x_9 H.size h0_x_9 hno_1 hno_215 hno_216 hno_217 hno_218) ⟨va_cnB 0 hts gX11_init_X1_init_n39 rfl rfl rfl (jN_X11_39 hN) (hts (.initialized RX1) (by decide +kernel)) (by decide +kernel) ⟨Nat.le_of_ble_eq_true rfl, Nat.le_of_ble_eq_true rfl⟩, rfl, (hts (.instanceMethod yX1_init) (by decide +kernel))⟩ ⟨fun a U g mk q => by obtain ⟨q0, q1, ⟨qK, qN⟩, qI⟩ := q; exact ⟨q0, q1, ⟨va_K.moved (u := U) (U := U.calling g mk a) (Vm.Alike.refl U.vm) qK, jN_same (U := U.calling g mk a) rfl qN⟩, qI⟩, fun U hU9 hW => ⟨rfl, by rw [hU9], jK_warm hW ⟨hK, hN⟩, by rw [hU9]; exact ⟨jv_A2 hI (fun _ _ => trivial), c_x_9⟩⟩⟩ rfl rfl hl.1 rfl (lv_room (Nat.le_of_ble_eq_true rfl)) dX11_init_53 ⟨(Nat.le_of_ble_eq_true rfl), (Nat.le_of_ble_eq_true rfl)⟩) hS (fun q h8 h9 => h9.elim (fun e9 => by rw [e9]; exact (hA _ hge_x_9)) (fun e9 => absurd e9 (by omega))) (fun q h9 => h9.elim (fun e9 => by rw [e9]; exact (hA _ hge_x_9)) (fun e9 => hA q (by omega))) (fun X t9 H locs ht hvm hw_10 hB hz1 hk1 hS => ?_)
  obtain ⟨hw_10, hw_10g, hU⟩ := hw_10
  obtain ⟨-, hI⟩ := hB
  rw [ht] at hI
  clear ht hvm
  have hle9 := nw_le hw_10
  have h9 := c_a0.lt
  have c_a0 := c_a0.kept (hk1 _ h9 (fun e9 => e9.elim (Ne.symm hne_x_9_a0) (fun e8 => absurd e8 (by omega))))
  have h9z := c_zt.lt
  have c_zt := c_zt.kept (hk1 _ h9z (fun e9 => e9.elim (kn_ne0 g_zt h0_x_9 (show (22 : Nat) ≠ 0 by decide)) (fun e8 => absurd e8 (by omega))))
  have h9z := c_zk.lt
  have c_zk := c_zk.kept (hk1 _ h9z (fun e9 => e9.elim (kn_ne0 g_zk h0_x_9 (show (20 : Nat) ≠ 0 by decide)) (fun e8 => absurd e8 (by omega))))
  have h8_a0 := nw_0 hw_10 h0_a0 (Ne.symm hne_x_9_a0) h9
  have ge_a0 := (nw_eq hw_10 (Ne.symm hne_x_9_a0) h9).trans ge_a0
  have h0_a0 := h8_a0
  have hJ := nw_tr hJ hw_10 (Or.inr hge_x_9) hzH (fun c hc => by simp only [Ljb, List.mem_append]; simp [hc])
  have g_x_1 := le_t hle9 g_x_1 (show (30 : Nat) ≠ 0 by decide)
  have g_x_3 := le_t hle9 g_x_3 (show (30 : Nat) ≠ 0 by decide)
  have g_x_5 := le_t hle9 g_x_5 (show (30 : Nat) ≠ 0 by decide)
  have g_x_7 := le_t hle9 g_x_7 (show (30 : Nat) ≠ 0 by decide)
  have hr0 : X.2.2.2 = 0 := by rw [hle9.2]; exact hr0
  have g_zt := le_t hle9 g_zt (show (22 : Nat) ≠ 0 by decide)
  have g_zk := le_t hle9 g_zk (show (20 : Nat) ≠ 0 by decide)
  clear hle9 hxl hk1 hz1
  have g_x_9 := hw_10g
  refine iz_putF (D := (dC, dI)) (ci := 11) (v := .ref x_9) (ty := .object "JoinBench$Choices") (C := RX11) (T := TX11) (N := 7) hx hb hts hinX11 tyX11 tyX11_ok nmX11 hown hK c_a0 hS hA0 rfl 4 (by decide) hL40 (fun _ h9 => h9) rfl hin rfl (by decide +kernel) rfl rfl (Nat.le_of_ble_eq_true rfl) dX11_init_56 (fun H locs c9 oq hS hz9 => ?_)
  clear hz9
  have hI := jv_skip hI h0_a0 oq
  have c_zt := c_zt.kept (oq _ (kn_ne0 g_zt h0_a0 (show (22 : Nat) ≠ 0 by decide)))
  have c_zk := c_zk.kept (oq _ (kn_ne0 g_zk h0_a0 (show (20 : Nat) ≠ 0 by decide)))
  have c_a0 := c9
  clear oq c9
  refine lv_aload_n hx hb dX11_init_59 rfl (lv_at hl 0 rfl) ?_
  refine lv_null hx hb dX11_init_60 ?_
  refine iz_put (D := (dC, dI)) (ci := 11) (v := .null) (ty := .object "JoinBench$Parter") (C := RX11) (T := TX11) (N := 7) hx hb hts hinX11 tyX11 tyX11_ok nmX11 hown hK c_a0 hS hA0 rfl 5 (by decide) hL44 (fun _ h9 => h9) rfl (by decide +kernel) rfl rfl (Nat.le_of_ble_eq_true rfl) dX11_init_61 (fun H locs c9 oq hS => ?_)
  have hI := jv_skip hI h0_a0 oq
  have c_zt := c_zt.kept (oq _ (kn_ne0 g_zt h0_a0 (show (22 : Nat) ≠ 0 by decide)))
  have c_zk := c_zk.kept (oq _ (kn_ne0 g_zk h0_a0 (show (20 : Nat) ≠ 0 by decide)))
  have c_a0 := c9
  clear oq c9
  refine lv_aload_n hx hb dX11_init_64 rfl (lv_at hl 0 rfl) ?_
  refine lv_iconst (v := kz 1) hx hb dX11_init_65 rfl ?_
  refine iz_put (D := (dC, dI)) (ci := 11) (v := .int (kz 1)) (ty := .int) (C := RX11) (T := TX11) (N := 7) hx hb hts hinX11 tyX11 tyX11_ok nmX11 hown hK c_a0 hS hA0 rfl 6 (by decide) hL48 (fun _ h9 => h9) rfl (by decide +kernel) rfl rfl (Nat.le_of_ble_eq_true rfl) dX11_init_66 (fun H locs c9 oq hS => ?_)
  have hI := jv_skip hI h0_a0 oq
  have c_zt := c_zt.kept (oq _ (kn_ne0 g_zt h0_a0 (show (22 : Nat) ≠ 0 by decide)))
  have c_zk := c_zk.kept (oq _ (kn_ne0 g_zk h0_a0 (show (20 : Nat) ≠ 0 by decide)))
  have c_a0 := c9
  clear oq c9
  exact W.vret hx hb hr (fun t9 ht hW => ⟨⟨X, rfl, ⟨hJ, hU, ge_a0⟩, jK_warm hW ⟨hK, hN⟩, by rw [ht]; exact ⟨hI, x_1, x_3, x_5, x_7, x_9, g_x_1, g_x_3, g_x_5, g_x_7, g_x_9, c_a0, ⟨zt, g_zt, c_zt⟩, zk, fk, g_zk, hfk, c_zk⟩⟩, hS.F ht⟩) hS.2.2 dX11_init_69
set_option maxHeartbeats 4000000 in
set_option maxRecDepth 100000 in
theorem m_ModelZ (l : Launch) (dC : Nat → ClassId) (dI : Nat → Nat → Nat) (ca : Nat → ClassId) (m0 n0 : Nat) (h0 : m0 < n0) : Met l yX12_init wsX12_init ({ frames := 1, cells := 34, slots := 87603, locals := 12 }) (va_Pc [.ref m0] (fun U => U.heap.size = n0 ∧ va_K (dC, dI) vwCl (k_tys ca) U ∧ va_at (dC, dI) vwCl (m0, .inr (12, [.null, .int (kz 0), .int (kz 0), .null, .null, .null, .null, .null, .null, .int (kz 0), .null, .null, .null, .null, .null, .null, .null, .null, .null, .null, .int (kz 0), .int (kz 0), .int (kz 0), .null, .null, .null, .int (kz 0), .null, .int (kz 0), .null, .null, .null, .null, .null, .int (kz 0), .int (kz 0), .long 0, .long 0, .int (kz 0), .int (kz 0), .null, .null, .null, .null, .null, .null, .int (kz 0), .null, .null])) U.heap)) (va_Qv (fun (_ : Unit) => True) (fun _ U => va_K (dC, dI) vwCl (k_tys ca) U ∧ mI (dC, dI) ca (jA m0 n0) (mX n0) m0 (mam n0) mzi mzl U.heap ∧ va_at (dC, dI) vwCl (mam n0 17, .inl (ca 22, 36, .inl (fun _ => 0))) U.heap ∧ ∃ fk : Nat → Int32, (∀ j : Nat, j < 36 → fk j = kz (-1)) ∧ va_at (dC, dI) vwCl (mam n0 18, .inl (ca 20, 36, .inl fk)) U.heap) (jA m0 n0)) 34 87603 (jA m0 n0) := by
  refine Met.ofW (cc := cX12_init) (maxL := 2) (ret := none) (by decide) rfl ?_
  intro p e s m args below meth c s₁ B hml hv
  obtain ⟨rfl, hsz, hK, hO⟩ := hv
  have hx := B.exec
  have hb := B.bytes
  have hr := B.returns
  have hts := atoms_spec (ws := wsX12_init) B.pre
  have hown : s.vm.findClass RX12 = some m.cls := findClass_of_methodNamed B.named
  have hin2 : meth.name = "<init>" := (name_of_methodNamed B.named B.method).1
  have hin : ∀ w ∈ u_ws RX12 TX12 49, w ∈ wsX12_init := by decide +kernel
  generalize hAe : jA m0 n0 = A
  have hA : ∀ q : Nat, n0 ≤ q → A q := fun q h => by rw [← hAe]; exact Or.inr h
  have hA0 : A m0 := by rw [← hAe]; exact Or.inl rfl
  obtain ⟨H, hH⟩ : ∃ H : Heap, H = s.heap := ⟨_, rfl⟩
  have hS : va_S A s.heap H [] := by rw [hH]; exact va_S.rf
  have hw : iw (dC, dI) ca n0 0 H := ⟨by rw [hH]; exact hsz, fun j h9 => absurd h9 (Nat.not_lt_zero j)⟩
  rw [← hH] at hO ⊢
  clear hH
  have hl := lv_entry ([.ref m0]) (n := 2) (Nat.le_of_ble_eq_true rfl)
  rw [lg_entry_eq]
  generalize (lg_sl ([.ref m0]) ++ List.replicate (2 - (lg_sl ([.ref m0])).length) Slot.unset).toArray = ls at hl ⊢
  have hl : lv_has ls 2 [(0, .ref m0)] := hl
  refine lv_aload_n hx hb dX12_init_0 rfl (lv_at hl 0 rfl) ?_
  refine W.objInit hx hb hown (hts (.methodLink RX12 1 objectInit) (by decide +kernel)) (hts (.instanceMethod objectInit) (by decide +kernel)) (hts _ (List.mem_of_getElem? (i := 3) rfl)) rfl (by rw [hml]; exact hl.1) rfl dX12_init_1 (Nat.le_of_ble_eq_true rfl) (Nat.le_of_ble_eq_true rfl) ?_
  refine W.eq (g2 := F0 m 4 ls []) rfl ?_
  refine lv_aload_n hx hb dX12_init_4 rfl (lv_at hl 0 rfl) ?_
  refine lv_bipush (v := kz 60) hx hb dX12_init_5 (by decide) ?_
  refine jz_newa (atype := .byte) (ty := .byte) (N := 60) hx hb (hts (.arrayClass .byte) (by decide +kernel)) rfl hK 1 rfl hS (a0 := (60, .inl (fun _ => 0))) rfl (by decide) (by decide) (Nat.le_of_ble_eq_true rfl) (Nat.le_of_ble_eq_true rfl) dX12_init_7 (fun x9 H hx9 c9 oq hz9 hS => ?_)
  have hx8 : x9 = n0 + 0 := hx9.trans hw.1
  rw [hx8] at c9 ⊢
  have hO := hO.kept (oq _ hO.lt)
  have hw := iw_new (t := (100, 21, 60, 0, 0)) hw c9 oq hz9 rfl iv_e21
  clear oq c9 hz9 hx9 hx8
  refine iz_putF (D := (dC, dI)) (ci := 12) (v := .ref (n0 + 0)) (ty := .array .byte) (C := RX12) (T := TX12) (N := 49) hx hb hts hin tyX12 tyX12_ok nmX12 hown hK hO hS hA0 rfl 0 (by decide) (hts (.fieldLink RX12 7 "JoinBenchModel" "tape" "[B") (by decide +kernel)) (fun _ h9 => h9) rfl hin2 rfl (by decide +kernel) rfl rfl (Nat.le_of_ble_eq_true rfl) dX12_init_9 (fun H locs c9 oq hS hz9 => ?_)
  have hw := iw_put hw h0 oq hz9
  have hO : va_at (dC, dI) vwCl (m0, .inr (12, [.ref (n0 + 0), .int (kz 0), .int (kz 0), .null, .null, .null, .null, .null, .null, .int (kz 0), .null, .null, .null, .null, .null, .null, .null, .null, .null, .null, .int (kz 0), .int (kz 0), .int (kz 0), .null, .null, .null, .int (kz 0), .null, .int (kz 0), .null, .null, .null, .null, .null, .int (kz 0), .int (kz 0), .long 0, .long 0, .int (kz 0), .int (kz 0), .null, .null, .null, .null, .null, .null, .int (kz 0), .null, .null])) H := c9
  clear oq c9 hz9
  refine lv_aload_n hx hb dX12_init_12 rfl (lv_at hl 0 rfl) ?_
  refine lv_sipush (v := kz 320) hx hb dX12_init_13 (by decide) ?_
  refine jz_newa (atype := .byte) (ty := .byte) (N := 320) hx hb (hts (.arrayClass .byte) (by decide +kernel)) rfl hK 1 rfl hS (a0 := (320, .inl (fun _ => 0))) rfl (by decide) (by decide) (Nat.le_of_ble_eq_true rfl) (Nat.le_of_ble_eq_true rfl) dX12_init_16 (fun x9 H hx9 c9 oq hz9 hS => ?_)
  have hx8 : x9 = n0 + 1 := hx9.trans hw.1
  rw [hx8] at c9 ⊢
  have hO := hO.kept (oq _ hO.lt)
  have hw := iw_new (t := (103, 21, 320, 0, 0)) hw c9 oq hz9 rfl iv_e21
  clear oq c9 hz9 hx9 hx8
  refine iz_putF (D := (dC, dI)) (ci := 12) (v := .ref (n0 + 1)) (ty := .array .byte) (C := RX12) (T := TX12) (N := 49) hx hb hts hin tyX12 tyX12_ok nmX12 hown hK hO hS hA0 rfl 3 (by decide) (hts (.fieldLink RX12 13 "JoinBenchModel" "letters" "[B") (by decide +kernel)) (fun _ h9 => h9) rfl hin2 rfl (by decide +kernel) rfl rfl (Nat.le_of_ble_eq_true rfl) dX12_init_18 (fun H locs c9 oq hS hz9 => ?_)
  have hw := iw_put hw h0 oq hz9
  have hO : va_at (dC, dI) vwCl (m0, .inr (12, [.ref (n0 + 0), .int (kz 0), .int (kz 0), .ref (n0 + 1), .null, .null, .null, .null, .null, .int (kz 0), .null, .null, .null, .null, .null, .null, .null, .null, .null, .null, .int (kz 0), .int (kz 0), .int (kz 0), .null, .null, .null, .int (kz 0), .null, .int (kz 0), .null, .null, .null, .null, .null, .int (kz 0), .int (kz 0), .long 0, .long 0, .int (kz 0), .int (kz 0), .null, .null, .null, .null, .null, .null, .int (kz 0), .null, .null])) H := c9
  clear oq c9 hz9
  refine lv_aload_n hx hb dX12_init_21 rfl (lv_at hl 0 rfl) ?_
  refine lv_bipush (v := kz 40) hx hb dX12_init_22 (by decide) ?_
  refine jz_newa (atype := .int) (ty := .int) (N := 40) hx hb (hts (.arrayClass .int) (by decide +kernel)) rfl hK 0 rfl hS (a0 := (40, .inl (fun _ => 0))) rfl (by decide) (by decide) (Nat.le_of_ble_eq_true rfl) (Nat.le_of_ble_eq_true rfl) dX12_init_24 (fun x9 H hx9 c9 oq hz9 hS => ?_)
  have hx8 : x9 = n0 + 2 := hx9.trans hw.1
  rw [hx8] at c9 ⊢
  have hO := hO.kept (oq _ hO.lt)
  have hw := iw_new (t := (104, 20, 40, 0, 8)) hw c9 oq hz9 rfl (iv_e20 (ok20_z (by decide)))
  clear oq c9 hz9 hx9 hx8
  refine iz_putF (D := (dC, dI)) (ci := 12) (v := .ref (n0 + 2)) (ty := .array .int) (C := RX12) (T := TX12) (N := 49) hx hb hts hin tyX12 tyX12_ok nmX12 hown hK hO hS hA0 rfl 4 (by decide) (hts (.fieldLink RX12 16 "JoinBenchModel" "size" "[I") (by decide +kernel)) (fun _ h9 => h9) rfl hin2 rfl (by decide +kernel) rfl rfl (Nat.le_of_ble_eq_true rfl) dX12_init_26 (fun H locs c9 oq hS hz9 => ?_)
  have hw := iw_put hw h0 oq hz9
  have hO : va_at (dC, dI) vwCl (m0, .inr (12, [.ref (n0 + 0), .int (kz 0), .int (kz 0), .ref (n0 + 1), .ref (n0 + 2), .null, .null, .null, .null, .int (kz 0), .null, .null, .null, .null, .null, .null, .null, .null, .null, .null, .int (kz 0), .int (kz 0), .int (kz 0), .null, .null, .null, .int (kz 0), .null, .int (kz 0), .null, .null, .null, .null, .null, .int (kz 0), .int (kz 0), .long 0, .long 0, .int (kz 0), .int (kz 0), .null, .null, .null, .null, .null, .null, .int (kz 0), .null, .null])) H := c9
  clear oq c9 hz9
  refine lv_aload_n hx hb dX12_init_29 rfl (lv_at hl 0 rfl) ?_
  refine lv_bipush (v := kz 40) hx hb dX12_init_30 (by decide) ?_
  refine jz_newa (atype := .int) (ty := .int) (N := 40) hx hb (hts (.arrayClass .int) (by decide +kernel)) rfl hK 0 rfl hS (a0 := (40, .inl (fun _ => 0))) rfl (by decide) (by decide) (Nat.le_of_ble_eq_true rfl) (Nat.le_of_ble_eq_true rfl) dX12_init_32 (fun x9 H hx9 c9 oq hz9 hS => ?_)
  have hx8 : x9 = n0 + 3 := hx9.trans hw.1
  rw [hx8] at c9 ⊢
  have hO := hO.kept (oq _ hO.lt)
  have hw := iw_new (t := (105, 20, 40, 0, 5)) hw c9 oq hz9 rfl (iv_e20 (ok20_z (by decide)))
  clear oq c9 hz9 hx9 hx8
  refine iz_putF (D := (dC, dI)) (ci := 12) (v := .ref (n0 + 3)) (ty := .array .int) (C := RX12) (T := TX12) (N := 49) hx hb hts hin tyX12 tyX12_ok nmX12 hown hK hO hS hA0 rfl 5 (by decide) (hts (.fieldLink RX12 20 "JoinBenchModel" "kind" "[I") (by decide +kernel)) (fun _ h9 => h9) rfl hin2 rfl (by decide +kernel) rfl rfl (Nat.le_of_ble_eq_true rfl) dX12_init_34 (fun H locs c9 oq hS hz9 => ?_)
  have hw := iw_put hw h0 oq hz9
  have hO : va_at (dC, dI) vwCl (m0, .inr (12, [.ref (n0 + 0), .int (kz 0), .int (kz 0), .ref (n0 + 1), .ref (n0 + 2), .ref (n0 + 3), .null, .null, .null, .int (kz 0), .null, .null, .null, .null, .null, .null, .null, .null, .null, .null, .int (kz 0), .int (kz 0), .int (kz 0), .null, .null, .null, .int (kz 0), .null, .int (kz 0), .null, .null, .null, .null, .null, .int (kz 0), .int (kz 0), .long 0, .long 0, .int (kz 0), .int (kz 0), .null, .null, .null, .null, .null, .null, .int (kz 0), .null, .null])) H := c9
  clear oq c9 hz9
  refine lv_aload_n hx hb dX12_init_37 rfl (lv_at hl 0 rfl) ?_
  refine lv_bipush (v := kz 40) hx hb dX12_init_38 (by decide) ?_
  refine jz_newa (atype := .int) (ty := .int) (N := 40) hx hb (hts (.arrayClass .int) (by decide +kernel)) rfl hK 0 rfl hS (a0 := (40, .inl (fun _ => 0))) rfl (by decide) (by decide) (Nat.le_of_ble_eq_true rfl) (Nat.le_of_ble_eq_true rfl) dX12_init_40 (fun x9 H hx9 c9 oq hz9 hS => ?_)
  have hx8 : x9 = n0 + 4 := hx9.trans hw.1
  rw [hx8] at c9 ⊢
  have hO := hO.kept (oq _ hO.lt)
  have hw := iw_new (t := (106, 20, 40, 0, 19)) hw c9 oq hz9 rfl (iv_e20 (ok20_z (by decide)))
  clear oq c9 hz9 hx9 hx8
  refine iz_putF (D := (dC, dI)) (ci := 12) (v := .ref (n0 + 4)) (ty := .array .int) (C := RX12) (T := TX12) (N := 49) hx hb hts hin tyX12 tyX12_ok nmX12 hown hK hO hS hA0 rfl 6 (by decide) (hts (.fieldLink RX12 23 "JoinBenchModel" "stem" "[I") (by decide +kernel)) (fun _ h9 => h9) rfl hin2 rfl (by decide +kernel) rfl rfl (Nat.le_of_ble_eq_true rfl) dX12_init_42 (fun H locs c9 oq hS hz9 => ?_)
  have hw := iw_put hw h0 oq hz9
  have hO : va_at (dC, dI) vwCl (m0, .inr (12, [.ref (n0 + 0), .int (kz 0), .int (kz 0), .ref (n0 + 1), .ref (n0 + 2), .ref (n0 + 3), .ref (n0 + 4), .null, .null, .int (kz 0), .null, .null, .null, .null, .null, .null, .null, .null, .null, .null, .int (kz 0), .int (kz 0), .int (kz 0), .null, .null, .null, .int (kz 0), .null, .int (kz 0), .null, .null, .null, .null, .null, .int (kz 0), .int (kz 0), .long 0, .long 0, .int (kz 0), .int (kz 0), .null, .null, .null, .null, .null, .null, .int (kz 0), .null, .null])) H := c9
  clear oq c9 hz9
  refine lv_aload_n hx hb dX12_init_45 rfl (lv_at hl 0 rfl) ?_
  refine lv_bipush (v := kz 40) hx hb dX12_init_46 (by decide) ?_
  refine jz_newa (atype := .int) (ty := .int) (N := 40) hx hb (hts (.arrayClass .int) (by decide +kernel)) rfl hK 0 rfl hS (a0 := (40, .inl (fun _ => 0))) rfl (by decide) (by decide) (Nat.le_of_ble_eq_true rfl) (Nat.le_of_ble_eq_true rfl) dX12_init_48 (fun x9 H hx9 c9 oq hz9 hS => ?_)
  have hx8 : x9 = n0 + 5 := hx9.trans hw.1
  rw [hx8] at c9 ⊢
  have hO := hO.kept (oq _ hO.lt)
  have hw := iw_new (t := (107, 20, 40, -2147483648, 2147483647)) hw c9 oq hz9 rfl (iv_e20 (ok20_z (by decide)))
  clear oq c9 hz9 hx9 hx8
  refine iz_putF (D := (dC, dI)) (ci := 12) (v := .ref (n0 + 5)) (ty := .array .int) (C := RX12) (T := TX12) (N := 49) hx hb hts hin tyX12 tyX12_ok nmX12 hown hK hO hS hA0 rfl 7 (by decide) (hts (.fieldLink RX12 26 "JoinBenchModel" "cost" "[I") (by decide +kernel)) (fun _ h9 => h9) rfl hin2 rfl (by decide +kernel) rfl rfl (Nat.le_of_ble_eq_true rfl) dX12_init_50 (fun H locs c9 oq hS hz9 => ?_)
  have hw := iw_put hw h0 oq hz9
  have hO : va_at (dC, dI) vwCl (m0, .inr (12, [.ref (n0 + 0), .int (kz 0), .int (kz 0), .ref (n0 + 1), .ref (n0 + 2), .ref (n0 + 3), .ref (n0 + 4), .ref (n0 + 5), .null, .int (kz 0), .null, .null, .null, .null, .null, .null, .null, .null, .null, .null, .int (kz 0), .int (kz 0), .int (kz 0), .null, .null, .null, .int (kz 0), .null, .int (kz 0), .null, .null, .null, .null, .null, .int (kz 0), .int (kz 0), .long 0, .long 0, .int (kz 0), .int (kz 0), .null, .null, .null, .null, .null, .null, .int (kz 0), .null, .null])) H := c9
  clear oq c9 hz9
  refine lv_aload_n hx hb dX12_init_53 rfl (lv_at hl 0 rfl) ?_
  refine lv_bipush (v := kz 40) hx hb dX12_init_54 (by decide) ?_
  refine jz_newa (atype := .boolean) (ty := .boolean) (N := 40) hx hb (hts (.arrayClass .boolean) (by decide +kernel)) rfl hK 2 rfl hS (a0 := (40, .inl (fun _ => 0))) rfl (by decide) (by decide) (Nat.le_of_ble_eq_true rfl) (Nat.le_of_ble_eq_true rfl) dX12_init_56 (fun x9 H hx9 c9 oq hz9 hS => ?_)
  have hx8 : x9 = n0 + 6 := hx9.trans hw.1
  rw [hx8] at c9 ⊢
  have hO := hO.kept (oq _ hO.lt)
  have hw := iw_new (t := (108, 22, 40, 0, 0)) hw c9 oq hz9 rfl iv_e22
  clear oq c9 hz9 hx9 hx8
  refine iz_putF (D := (dC, dI)) (ci := 12) (v := .ref (n0 + 6)) (ty := .array .boolean) (C := RX12) (T := TX12) (N := 49) hx hb hts hin tyX12 tyX12_ok nmX12 hown hK hO hS hA0 rfl 8 (by decide) (hts (.fieldLink RX12 29 "JoinBenchModel" "isKept" "[Z") (by decide +kernel)) (fun _ h9 => h9) rfl hin2 rfl (by decide +kernel) rfl rfl (Nat.le_of_ble_eq_true rfl) dX12_init_58 (fun H locs c9 oq hS hz9 => ?_)
  have hw := iw_put hw h0 oq hz9
  have hO : va_at (dC, dI) vwCl (m0, .inr (12, [.ref (n0 + 0), .int (kz 0), .int (kz 0), .ref (n0 + 1), .ref (n0 + 2), .ref (n0 + 3), .ref (n0 + 4), .ref (n0 + 5), .ref (n0 + 6), .int (kz 0), .null, .null, .null, .null, .null, .null, .null, .null, .null, .null, .int (kz 0), .int (kz 0), .int (kz 0), .null, .null, .null, .int (kz 0), .null, .int (kz 0), .null, .null, .null, .null, .null, .int (kz 0), .int (kz 0), .long 0, .long 0, .int (kz 0), .int (kz 0), .null, .null, .null, .null, .null, .null, .int (kz 0), .null, .null])) H := c9
  clear oq c9 hz9
  refine lv_aload_n hx hb dX12_init_61 rfl (lv_at hl 0 rfl) ?_
  refine lv_sipush (v := kz 240) hx hb dX12_init_62 (by decide) ?_
  refine jz_newa (atype := .byte) (ty := .byte) (N := 240) hx hb (hts (.arrayClass .byte) (by decide +kernel)) rfl hK 1 rfl hS (a0 := (240, .inl (fun _ => 0))) rfl (by decide) (by decide) (Nat.le_of_ble_eq_true rfl) (Nat.le_of_ble_eq_true rfl) dX12_init_65 (fun x9 H hx9 c9 oq hz9 hS => ?_)
  have hx8 : x9 = n0 + 7 := hx9.trans hw.1
  rw [hx8] at c9 ⊢
  have hO := hO.kept (oq _ hO.lt)
  have hw := iw_new (t := (110, 21, 240, 0, 0)) hw c9 oq hz9 rfl iv_e21
  clear oq c9 hz9 hx9 hx8
  refine iz_putF (D := (dC, dI)) (ci := 12) (v := .ref (n0 + 7)) (ty := .array .byte) (C := RX12) (T := TX12) (N := 49) hx hb hts hin tyX12 tyX12_ok nmX12 hown hK hO hS hA0 rfl 10 (by decide) (hts (.fieldLink RX12 33 "JoinBenchModel" "ruleText" "[B") (by decide +kernel)) (fun _ h9 => h9) rfl hin2 rfl (by decide +kernel) rfl rfl (Nat.le_of_ble_eq_true rfl) dX12_init_67 (fun H locs c9 oq hS hz9 => ?_)
  have hw := iw_put hw h0 oq hz9
  have hO : va_at (dC, dI) vwCl (m0, .inr (12, [.ref (n0 + 0), .int (kz 0), .int (kz 0), .ref (n0 + 1), .ref (n0 + 2), .ref (n0 + 3), .ref (n0 + 4), .ref (n0 + 5), .ref (n0 + 6), .int (kz 0), .ref (n0 + 7), .null, .null, .null, .null, .null, .null, .null, .null, .null, .int (kz 0), .int (kz 0), .int (kz 0), .null, .null, .null, .int (kz 0), .null, .int (kz 0), .null, .null, .null, .null, .null, .int (kz 0), .int (kz 0), .long 0, .long 0, .int (kz 0), .int (kz 0), .null, .null, .null, .null, .null, .null, .int (kz 0), .null, .null])) H := c9
  clear oq c9 hz9
  refine lv_aload_n hx hb dX12_init_70 rfl (lv_at hl 0 rfl) ?_
  refine lv_bipush (v := kz 24) hx hb dX12_init_71 (by decide) ?_
  refine jz_newa (atype := .int) (ty := .int) (N := 24) hx hb (hts (.arrayClass .int) (by decide +kernel)) rfl hK 0 rfl hS (a0 := (24, .inl (fun _ => 0))) rfl (by decide) (by decide) (Nat.le_of_ble_eq_true rfl) (Nat.le_of_ble_eq_true rfl) dX12_init_73 (fun x9 H hx9 c9 oq hz9 hS => ?_)
  have hx8 : x9 = n0 + 8 := hx9.trans hw.1
  rw [hx8] at c9 ⊢
  have hO := hO.kept (oq _ hO.lt)
  have hw := iw_new (t := (111, 20, 24, 0, 3)) hw c9 oq hz9 rfl (iv_e20 (ok20_z (by decide)))
  clear oq c9 hz9 hx9 hx8
  refine iz_putF (D := (dC, dI)) (ci := 12) (v := .ref (n0 + 8)) (ty := .array .int) (C := RX12) (T := TX12) (N := 49) hx hb hts hin tyX12 tyX12_ok nmX12 hown hK hO hS hA0 rfl 11 (by decide) (hts (.fieldLink RX12 36 "JoinBenchModel" "ends" "[I") (by decide +kernel)) (fun _ h9 => h9) rfl hin2 rfl (by decide +kernel) rfl rfl (Nat.le_of_ble_eq_true rfl) dX12_init_75 (fun H locs c9 oq hS hz9 => ?_)
  have hw := iw_put hw h0 oq hz9
  have hO : va_at (dC, dI) vwCl (m0, .inr (12, [.ref (n0 + 0), .int (kz 0), .int (kz 0), .ref (n0 + 1), .ref (n0 + 2), .ref (n0 + 3), .ref (n0 + 4), .ref (n0 + 5), .ref (n0 + 6), .int (kz 0), .ref (n0 + 7), .ref (n0 + 8), .null, .null, .null, .null, .null, .null, .null, .null, .int (kz 0), .int (kz 0), .int (kz 0), .null, .null, .null, .int (kz 0), .null, .int (kz 0), .null, .null, .null, .null, .null, .int (kz 0), .int (kz 0), .long 0, .long 0, .int (kz 0), .int (kz 0), .null, .null, .null, .null, .null, .null, .int (kz 0), .null, .null])) H := c9
  clear oq c9 hz9
  refine lv_aload_n hx hb dX12_init_78 rfl (lv_at hl 0 rfl) ?_
  refine lv_bipush (v := kz 24) hx hb dX12_init_79 (by decide) ?_
  refine jz_newa (atype := .int) (ty := .int) (N := 24) hx hb (hts (.arrayClass .int) (by decide +kernel)) rfl hK 0 rfl hS (a0 := (24, .inl (fun _ => 0))) rfl (by decide) (by decide) (Nat.le_of_ble_eq_true rfl) (Nat.le_of_ble_eq_true rfl) dX12_init_81 (fun x9 H hx9 c9 oq hz9 hS => ?_)
  have hx8 : x9 = n0 + 9 := hx9.trans hw.1
  rw [hx8] at c9 ⊢
  have hO := hO.kept (oq _ hO.lt)
  have hw := iw_new (t := (112, 20, 24, 0, 3)) hw c9 oq hz9 rfl (iv_e20 (ok20_z (by decide)))
  clear oq c9 hz9 hx9 hx8
  refine iz_putF (D := (dC, dI)) (ci := 12) (v := .ref (n0 + 9)) (ty := .array .int) (C := RX12) (T := TX12) (N := 49) hx hb hts hin tyX12 tyX12_ok nmX12 hown hK hO hS hA0 rfl 12 (by decide) (hts (.fieldLink RX12 39 "JoinBenchModel" "begins" "[I") (by decide +kernel)) (fun _ h9 => h9) rfl hin2 rfl (by decide +kernel) rfl rfl (Nat.le_of_ble_eq_true rfl) dX12_init_83 (fun H locs c9 oq hS hz9 => ?_)
  have hw := iw_put hw h0 oq hz9
  have hO : va_at (dC, dI) vwCl (m0, .inr (12, [.ref (n0 + 0), .int (kz 0), .int (kz 0), .ref (n0 + 1), .ref (n0 + 2), .ref (n0 + 3), .ref (n0 + 4), .ref (n0 + 5), .ref (n0 + 6), .int (kz 0), .ref (n0 + 7), .ref (n0 + 8), .ref (n0 + 9), .null, .null, .null, .null, .null, .null, .null, .int (kz 0), .int (kz 0), .int (kz 0), .null, .null, .null, .int (kz 0), .null, .int (kz 0), .null, .null, .null, .null, .null, .int (kz 0), .int (kz 0), .long 0, .long 0, .int (kz 0), .int (kz 0), .null, .null, .null, .null, .null, .null, .int (kz 0), .null, .null])) H := c9
  clear oq c9 hz9
  refine lv_aload_n hx hb dX12_init_86 rfl (lv_at hl 0 rfl) ?_
  refine lv_bipush (v := kz 24) hx hb dX12_init_87 (by decide) ?_
  refine jz_newa (atype := .int) (ty := .int) (N := 24) hx hb (hts (.arrayClass .int) (by decide +kernel)) rfl hK 0 rfl hS (a0 := (24, .inl (fun _ => 0))) rfl (by decide) (by decide) (Nat.le_of_ble_eq_true rfl) (Nat.le_of_ble_eq_true rfl) dX12_init_89 (fun x9 H hx9 c9 oq hz9 hS => ?_)
  have hx8 : x9 = n0 + 10 := hx9.trans hw.1
  rw [hx8] at c9 ⊢
  have hO := hO.kept (oq _ hO.lt)
  have hw := iw_new (t := (113, 20, 24, 0, 4)) hw c9 oq hz9 rfl (iv_e20 (ok20_z (by decide)))
  clear oq c9 hz9 hx9 hx8
  refine iz_putF (D := (dC, dI)) (ci := 12) (v := .ref (n0 + 10)) (ty := .array .int) (C := RX12) (T := TX12) (N := 49) hx hb hts hin tyX12 tyX12_ok nmX12 hown hK hO hS hA0 rfl 13 (by decide) (hts (.fieldLink RX12 42 "JoinBenchModel" "comes" "[I") (by decide +kernel)) (fun _ h9 => h9) rfl hin2 rfl (by decide +kernel) rfl rfl (Nat.le_of_ble_eq_true rfl) dX12_init_91 (fun H locs c9 oq hS hz9 => ?_)
  have hw := iw_put hw h0 oq hz9
  have hO : va_at (dC, dI) vwCl (m0, .inr (12, [.ref (n0 + 0), .int (kz 0), .int (kz 0), .ref (n0 + 1), .ref (n0 + 2), .ref (n0 + 3), .ref (n0 + 4), .ref (n0 + 5), .ref (n0 + 6), .int (kz 0), .ref (n0 + 7), .ref (n0 + 8), .ref (n0 + 9), .ref (n0 + 10), .null, .null, .null, .null, .null, .null, .int (kz 0), .int (kz 0), .int (kz 0), .null, .null, .null, .int (kz 0), .null, .int (kz 0), .null, .null, .null, .null, .null, .int (kz 0), .int (kz 0), .long 0, .long 0, .int (kz 0), .int (kz 0), .null, .null, .null, .null, .null, .null, .int (kz 0), .null, .null])) H := c9
  clear oq c9 hz9
  refine lv_aload_n hx hb dX12_init_94 rfl (lv_at hl 0 rfl) ?_
  refine lv_bipush (v := kz 24) hx hb dX12_init_95 (by decide) ?_
  refine jz_newa (atype := .int) (ty := .int) (N := 24) hx hb (hts (.arrayClass .int) (by decide +kernel)) rfl hK 0 rfl hS (a0 := (24, .inl (fun _ => 0))) rfl (by decide) (by decide) (Nat.le_of_ble_eq_true rfl) (Nat.le_of_ble_eq_true rfl) dX12_init_97 (fun x9 H hx9 c9 oq hz9 hS => ?_)
  have hx8 : x9 = n0 + 11 := hx9.trans hw.1
  rw [hx8] at c9 ⊢
  have hO := hO.kept (oq _ hO.lt)
  have hw := iw_new (t := (114, 20, 24, -2147483648, 2147483647)) hw c9 oq hz9 rfl (iv_e20 (ok20_z (by decide)))
  clear oq c9 hz9 hx9 hx8
  refine iz_putF (D := (dC, dI)) (ci := 12) (v := .ref (n0 + 11)) (ty := .array .int) (C := RX12) (T := TX12) (N := 49) hx hb hts hin tyX12 tyX12_ok nmX12 hown hK hO hS hA0 rfl 14 (by decide) (hts (.fieldLink RX12 45 "JoinBenchModel" "ruleCost" "[I") (by decide +kernel)) (fun _ h9 => h9) rfl hin2 rfl (by decide +kernel) rfl rfl (Nat.le_of_ble_eq_true rfl) dX12_init_99 (fun H locs c9 oq hS hz9 => ?_)
  have hw := iw_put hw h0 oq hz9
  have hO : va_at (dC, dI) vwCl (m0, .inr (12, [.ref (n0 + 0), .int (kz 0), .int (kz 0), .ref (n0 + 1), .ref (n0 + 2), .ref (n0 + 3), .ref (n0 + 4), .ref (n0 + 5), .ref (n0 + 6), .int (kz 0), .ref (n0 + 7), .ref (n0 + 8), .ref (n0 + 9), .ref (n0 + 10), .ref (n0 + 11), .null, .null, .null, .null, .null, .int (kz 0), .int (kz 0), .int (kz 0), .null, .null, .null, .int (kz 0), .null, .int (kz 0), .null, .null, .null, .null, .null, .int (kz 0), .int (kz 0), .long 0, .long 0, .int (kz 0), .int (kz 0), .null, .null, .null, .null, .null, .null, .int (kz 0), .null, .null])) H := c9
  clear oq c9 hz9
  refine lv_aload_n hx hb dX12_init_102 rfl (lv_at hl 0 rfl) ?_
  refine lv_bipush (v := kz 24) hx hb dX12_init_103 (by decide) ?_
  refine jz_newa (atype := .int) (ty := .int) (N := 24) hx hb (hts (.arrayClass .int) (by decide +kernel)) rfl hK 0 rfl hS (a0 := (24, .inl (fun _ => 0))) rfl (by decide) (by decide) (Nat.le_of_ble_eq_true rfl) (Nat.le_of_ble_eq_true rfl) dX12_init_105 (fun x9 H hx9 c9 oq hz9 hS => ?_)
  have hx8 : x9 = n0 + 12 := hx9.trans hw.1
  rw [hx8] at c9 ⊢
  have hO := hO.kept (oq _ hO.lt)
  have hw := iw_new (t := (115, 20, 24, -2147483648, 2147483647)) hw c9 oq hz9 rfl (iv_e20 (ok20_z (by decide)))
  clear oq c9 hz9 hx9 hx8
  refine iz_putF (D := (dC, dI)) (ci := 12) (v := .ref (n0 + 12)) (ty := .array .int) (C := RX12) (T := TX12) (N := 49) hx hb hts hin tyX12 tyX12_ok nmX12 hown hK hO hS hA0 rfl 15 (by decide) (hts (.fieldLink RX12 48 "JoinBenchModel" "ruleFirst" "[I") (by decide +kernel)) (fun _ h9 => h9) rfl hin2 rfl (by decide +kernel) rfl rfl (Nat.le_of_ble_eq_true rfl) dX12_init_107 (fun H locs c9 oq hS hz9 => ?_)
  have hw := iw_put hw h0 oq hz9
  have hO : va_at (dC, dI) vwCl (m0, .inr (12, [.ref (n0 + 0), .int (kz 0), .int (kz 0), .ref (n0 + 1), .ref (n0 + 2), .ref (n0 + 3), .ref (n0 + 4), .ref (n0 + 5), .ref (n0 + 6), .int (kz 0), .ref (n0 + 7), .ref (n0 + 8), .ref (n0 + 9), .ref (n0 + 10), .ref (n0 + 11), .ref (n0 + 12), .null, .null, .null, .null, .int (kz 0), .int (kz 0), .int (kz 0), .null, .null, .null, .int (kz 0), .null, .int (kz 0), .null, .null, .null, .null, .null, .int (kz 0), .int (kz 0), .long 0, .long 0, .int (kz 0), .int (kz 0), .null, .null, .null, .null, .null, .null, .int (kz 0), .null, .null])) H := c9
  clear oq c9 hz9
  refine lv_aload_n hx hb dX12_init_110 rfl (lv_at hl 0 rfl) ?_
  refine lv_bipush (v := kz 24) hx hb dX12_init_111 (by decide) ?_
  refine jz_newa (atype := .int) (ty := .int) (N := 24) hx hb (hts (.arrayClass .int) (by decide +kernel)) rfl hK 0 rfl hS (a0 := (24, .inl (fun _ => 0))) rfl (by decide) (by decide) (Nat.le_of_ble_eq_true rfl) (Nat.le_of_ble_eq_true rfl) dX12_init_113 (fun x9 H hx9 c9 oq hz9 hS => ?_)
  have hx8 : x9 = n0 + 13 := hx9.trans hw.1
  rw [hx8] at c9 ⊢
  have hO := hO.kept (oq _ hO.lt)
  have hw := iw_new (t := (116, 20, 24, -2147483648, 2147483647)) hw c9 oq hz9 rfl (iv_e20 (ok20_z (by decide)))
  clear oq c9 hz9 hx9 hx8
  refine iz_putF (D := (dC, dI)) (ci := 12) (v := .ref (n0 + 13)) (ty := .array .int) (C := RX12) (T := TX12) (N := 49) hx hb hts hin tyX12 tyX12_ok nmX12 hown hK hO hS hA0 rfl 16 (by decide) (hts (.fieldLink RX12 51 "JoinBenchModel" "ruleLast" "[I") (by decide +kernel)) (fun _ h9 => h9) rfl hin2 rfl (by decide +kernel) rfl rfl (Nat.le_of_ble_eq_true rfl) dX12_init_115 (fun H locs c9 oq hS hz9 => ?_)
  have hw := iw_put hw h0 oq hz9
  have hO : va_at (dC, dI) vwCl (m0, .inr (12, [.ref (n0 + 0), .int (kz 0), .int (kz 0), .ref (n0 + 1), .ref (n0 + 2), .ref (n0 + 3), .ref (n0 + 4), .ref (n0 + 5), .ref (n0 + 6), .int (kz 0), .ref (n0 + 7), .ref (n0 + 8), .ref (n0 + 9), .ref (n0 + 10), .ref (n0 + 11), .ref (n0 + 12), .ref (n0 + 13), .null, .null, .null, .int (kz 0), .int (kz 0), .int (kz 0), .null, .null, .null, .int (kz 0), .null, .int (kz 0), .null, .null, .null, .null, .null, .int (kz 0), .int (kz 0), .long 0, .long 0, .int (kz 0), .int (kz 0), .null, .null, .null, .null, .null, .null, .int (kz 0), .null, .null])) H := c9
  clear oq c9 hz9
  refine lv_aload_n hx hb dX12_init_118 rfl (lv_at hl 0 rfl) ?_
  refine lv_bipush (v := kz 36) hx hb dX12_init_119 (by decide) ?_
  refine jz_newa (atype := .boolean) (ty := .boolean) (N := 36) hx hb (hts (.arrayClass .boolean) (by decide +kernel)) rfl hK 2 rfl hS (a0 := (36, .inl (fun _ => 0))) rfl (by decide) (by decide) (Nat.le_of_ble_eq_true rfl) (Nat.le_of_ble_eq_true rfl) dX12_init_121 (fun x9 H hx9 c9 oq hz9 hS => ?_)
  have hx8 : x9 = n0 + 14 := hx9.trans hw.1
  rw [hx8] at c9 ⊢
  have hO := hO.kept (oq _ hO.lt)
  have hw := iw_new (t := (117, 22, 36, 0, 0)) hw c9 oq hz9 rfl iv_e22
  have c17 := c9
  clear oq c9 hz9 hx9 hx8
  refine iz_putF (D := (dC, dI)) (ci := 12) (v := .ref (n0 + 14)) (ty := .array .boolean) (C := RX12) (T := TX12) (N := 49) hx hb hts hin tyX12 tyX12_ok nmX12 hown hK hO hS hA0 rfl 17 (by decide) (hts (.fieldLink RX12 54 "JoinBenchModel" "mayNot" "[Z") (by decide +kernel)) (fun _ h9 => h9) rfl hin2 rfl (by decide +kernel) rfl rfl (Nat.le_of_ble_eq_true rfl) dX12_init_123 (fun H locs c9 oq hS hz9 => ?_)
  have hw := iw_put hw h0 oq hz9
  have hO : va_at (dC, dI) vwCl (m0, .inr (12, [.ref (n0 + 0), .int (kz 0), .int (kz 0), .ref (n0 + 1), .ref (n0 + 2), .ref (n0 + 3), .ref (n0 + 4), .ref (n0 + 5), .ref (n0 + 6), .int (kz 0), .ref (n0 + 7), .ref (n0 + 8), .ref (n0 + 9), .ref (n0 + 10), .ref (n0 + 11), .ref (n0 + 12), .ref (n0 + 13), .ref (n0 + 14), .null, .null, .int (kz 0), .int (kz 0), .int (kz 0), .null, .null, .null, .int (kz 0), .null, .int (kz 0), .null, .null, .null, .null, .null, .int (kz 0), .int (kz 0), .long 0, .long 0, .int (kz 0), .int (kz 0), .null, .null, .null, .null, .null, .null, .int (kz 0), .null, .null])) H := c9
  have c17 := c17.kept (oq _ (by omega))
  clear oq c9 hz9
  refine lv_aload_n hx hb dX12_init_126 rfl (lv_at hl 0 rfl) ?_
  refine lv_bipush (v := kz 36) hx hb dX12_init_127 (by decide) ?_
  refine jz_newa (atype := .int) (ty := .int) (N := 36) hx hb (hts (.arrayClass .int) (by decide +kernel)) rfl hK 0 rfl hS (a0 := (36, .inl (fun _ => 0))) rfl (by decide) (by decide) (Nat.le_of_ble_eq_true rfl) (Nat.le_of_ble_eq_true rfl) dX12_init_129 (fun x9 H hx9 c9 oq hz9 hS => ?_)
  have hx8 : x9 = n0 + 15 := hx9.trans hw.1
  rw [hx8] at c9 ⊢
  have hO := hO.kept (oq _ hO.lt)
  have hw := iw_new (t := (118, 20, 36, -1, 5)) hw c9 oq hz9 rfl (iv_e20 (ok20_z (by decide)))
  have c17 := c17.kept (oq _ c17.lt)
  clear oq c9 hz9 hx9 hx8
  refine iz_putF (D := (dC, dI)) (ci := 12) (v := .ref (n0 + 15)) (ty := .array .int) (C := RX12) (T := TX12) (N := 49) hx hb hts hin tyX12 tyX12_ok nmX12 hown hK hO hS hA0 rfl 18 (by decide) (hts (.fieldLink RX12 57 "JoinBenchModel" "tree" "[I") (by decide +kernel)) (fun _ h9 => h9) rfl hin2 rfl (by decide +kernel) rfl rfl (Nat.le_of_ble_eq_true rfl) dX12_init_131 (fun H locs c9 oq hS hz9 => ?_)
  have hw := iw_put hw h0 oq hz9
  have hO : va_at (dC, dI) vwCl (m0, .inr (12, [.ref (n0 + 0), .int (kz 0), .int (kz 0), .ref (n0 + 1), .ref (n0 + 2), .ref (n0 + 3), .ref (n0 + 4), .ref (n0 + 5), .ref (n0 + 6), .int (kz 0), .ref (n0 + 7), .ref (n0 + 8), .ref (n0 + 9), .ref (n0 + 10), .ref (n0 + 11), .ref (n0 + 12), .ref (n0 + 13), .ref (n0 + 14), .ref (n0 + 15), .null, .int (kz 0), .int (kz 0), .int (kz 0), .null, .null, .null, .int (kz 0), .null, .int (kz 0), .null, .null, .null, .null, .null, .int (kz 0), .int (kz 0), .long 0, .long 0, .int (kz 0), .int (kz 0), .null, .null, .null, .null, .null, .null, .int (kz 0), .null, .null])) H := c9
  have c17 := c17.kept (oq _ (by omega))
  clear oq c9 hz9
  refine lv_aload_n hx hb dX12_init_134 rfl (lv_at hl 0 rfl) ?_
  refine lv_bipush (v := kz 20) hx hb dX12_init_135 (by decide) ?_
  refine jz_newa (atype := .int) (ty := .int) (N := 20) hx hb (hts (.arrayClass .int) (by decide +kernel)) rfl hK 0 rfl hS (a0 := (20, .inl (fun _ => 0))) rfl (by decide) (by decide) (Nat.le_of_ble_eq_true rfl) (Nat.le_of_ble_eq_true rfl) dX12_init_137 (fun x9 H hx9 c9 oq hz9 hS => ?_)
  have hx8 : x9 = n0 + 16 := hx9.trans hw.1
  rw [hx8] at c9 ⊢
  have hO := hO.kept (oq _ hO.lt)
  have hw := iw_new (t := (119, 20, 20, -2147483648, 2147483647)) hw c9 oq hz9 rfl (iv_e20 (ok20_z (by decide)))
  have c17 := c17.kept (oq _ c17.lt)
  clear oq c9 hz9 hx9 hx8
  refine iz_putF (D := (dC, dI)) (ci := 12) (v := .ref (n0 + 16)) (ty := .array .int) (C := RX12) (T := TX12) (N := 49) hx hb hts hin tyX12 tyX12_ok nmX12 hown hK hO hS hA0 rfl 19 (by decide) (hts (.fieldLink RX12 60 "JoinBenchModel" "uses" "[I") (by decide +kernel)) (fun _ h9 => h9) rfl hin2 rfl (by decide +kernel) rfl rfl (Nat.le_of_ble_eq_true rfl) dX12_init_139 (fun H locs c9 oq hS hz9 => ?_)
  have hw := iw_put hw h0 oq hz9
  have hO : va_at (dC, dI) vwCl (m0, .inr (12, [.ref (n0 + 0), .int (kz 0), .int (kz 0), .ref (n0 + 1), .ref (n0 + 2), .ref (n0 + 3), .ref (n0 + 4), .ref (n0 + 5), .ref (n0 + 6), .int (kz 0), .ref (n0 + 7), .ref (n0 + 8), .ref (n0 + 9), .ref (n0 + 10), .ref (n0 + 11), .ref (n0 + 12), .ref (n0 + 13), .ref (n0 + 14), .ref (n0 + 15), .ref (n0 + 16), .int (kz 0), .int (kz 0), .int (kz 0), .null, .null, .null, .int (kz 0), .null, .int (kz 0), .null, .null, .null, .null, .null, .int (kz 0), .int (kz 0), .long 0, .long 0, .int (kz 0), .int (kz 0), .null, .null, .null, .null, .null, .null, .int (kz 0), .null, .null])) H := c9
  have c17 := c17.kept (oq _ (by omega))
  clear oq c9 hz9
  refine lv_aload_n hx hb dX12_init_142 rfl (lv_at hl 0 rfl) ?_
  refine lv_iconst (v := kz 1) hx hb dX12_init_143 rfl ?_
  refine iz_put (D := (dC, dI)) (ci := 12) (v := .int (kz 1)) (ty := .int) (C := RX12) (T := TX12) (N := 49) hx hb hts hin tyX12 tyX12_ok nmX12 hown hK hO hS hA0 rfl 20 (by decide) (hts (.fieldLink RX12 63 "JoinBenchModel" "step" "I") (by decide +kernel)) (fun _ h9 => h9) rfl (by decide +kernel) rfl rfl (Nat.le_of_ble_eq_true rfl) dX12_init_144 (fun H locs c9 oq hS => ?_)
  have hz9 := iw_sz hO.lt c9.lt oq
  have hw := iw_put hw h0 oq hz9
  have hO : va_at (dC, dI) vwCl (m0, .inr (12, [.ref (n0 + 0), .int (kz 0), .int (kz 0), .ref (n0 + 1), .ref (n0 + 2), .ref (n0 + 3), .ref (n0 + 4), .ref (n0 + 5), .ref (n0 + 6), .int (kz 0), .ref (n0 + 7), .ref (n0 + 8), .ref (n0 + 9), .ref (n0 + 10), .ref (n0 + 11), .ref (n0 + 12), .ref (n0 + 13), .ref (n0 + 14), .ref (n0 + 15), .ref (n0 + 16), .int (kz 1), .int (kz 0), .int (kz 0), .null, .null, .null, .int (kz 0), .null, .int (kz 0), .null, .null, .null, .null, .null, .int (kz 0), .int (kz 0), .long 0, .long 0, .int (kz 0), .int (kz 0), .null, .null, .null, .null, .null, .null, .int (kz 0), .null, .null])) H := c9
  have c17 := c17.kept (oq _ (by omega))
  clear oq c9 hz9
  refine lv_aload_n hx hb dX12_init_147 rfl (lv_at hl 0 rfl) ?_
  refine lv_bipush (v := kz 40) hx hb dX12_init_148 (by decide) ?_
  refine jz_newa (atype := .int) (ty := .int) (N := 40) hx hb (hts (.arrayClass .int) (by decide +kernel)) rfl hK 0 rfl hS (a0 := (40, .inl (fun _ => 0))) rfl (by decide) (by decide) (Nat.le_of_ble_eq_true rfl) (Nat.le_of_ble_eq_true rfl) dX12_init_150 (fun x9 H hx9 c9 oq hz9 hS => ?_)
  have hx8 : x9 = n0 + 17 := hx9.trans hw.1
  rw [hx8] at c9 ⊢
  have hO := hO.kept (oq _ hO.lt)
  have hw := iw_new (t := (123, 20, 40, 0, 39)) hw c9 oq hz9 rfl (iv_e20 (ok20_z (by decide)))
  have c17 := c17.kept (oq _ c17.lt)
  clear oq c9 hz9 hx9 hx8
  refine iz_putF (D := (dC, dI)) (ci := 12) (v := .ref (n0 + 17)) (ty := .array .int) (C := RX12) (T := TX12) (N := 49) hx hb hts hin tyX12 tyX12_ok nmX12 hown hK hO hS hA0 rfl 23 (by decide) (hts (.fieldLink RX12 67 "JoinBenchModel" "rowForm" "[I") (by decide +kernel)) (fun _ h9 => h9) rfl hin2 rfl (by decide +kernel) rfl rfl (Nat.le_of_ble_eq_true rfl) dX12_init_152 (fun H locs c9 oq hS hz9 => ?_)
  have hw := iw_put hw h0 oq hz9
  have hO : va_at (dC, dI) vwCl (m0, .inr (12, [.ref (n0 + 0), .int (kz 0), .int (kz 0), .ref (n0 + 1), .ref (n0 + 2), .ref (n0 + 3), .ref (n0 + 4), .ref (n0 + 5), .ref (n0 + 6), .int (kz 0), .ref (n0 + 7), .ref (n0 + 8), .ref (n0 + 9), .ref (n0 + 10), .ref (n0 + 11), .ref (n0 + 12), .ref (n0 + 13), .ref (n0 + 14), .ref (n0 + 15), .ref (n0 + 16), .int (kz 1), .int (kz 0), .int (kz 0), .ref (n0 + 17), .null, .null, .int (kz 0), .null, .int (kz 0), .null, .null, .null, .null, .null, .int (kz 0), .int (kz 0), .long 0, .long 0, .int (kz 0), .int (kz 0), .null, .null, .null, .null, .null, .null, .int (kz 0), .null, .null])) H := c9
  have c17 := c17.kept (oq _ (by omega))
  clear oq c9 hz9
  refine lv_aload_n hx hb dX12_init_155 rfl (lv_at hl 0 rfl) ?_
  refine lv_bipush (v := kz 40) hx hb dX12_init_156 (by decide) ?_
  refine jz_newa (atype := .int) (ty := .int) (N := 40) hx hb (hts (.arrayClass .int) (by decide +kernel)) rfl hK 0 rfl hS (a0 := (40, .inl (fun _ => 0))) rfl (by decide) (by decide) (Nat.le_of_ble_eq_true rfl) (Nat.le_of_ble_eq_true rfl) dX12_init_158 (fun x9 H hx9 c9 oq hz9 hS => ?_)
  have hx8 : x9 = n0 + 18 := hx9.trans hw.1
  rw [hx8] at c9 ⊢
  have hO := hO.kept (oq _ hO.lt)
  have hw := iw_new (t := (124, 20, 40, -1, 23)) hw c9 oq hz9 rfl (iv_e20 (ok20_z (by decide)))
  have c17 := c17.kept (oq _ c17.lt)
  clear oq c9 hz9 hx9 hx8
  refine iz_putF (D := (dC, dI)) (ci := 12) (v := .ref (n0 + 18)) (ty := .array .int) (C := RX12) (T := TX12) (N := 49) hx hb hts hin tyX12 tyX12_ok nmX12 hown hK hO hS hA0 rfl 24 (by decide) (hts (.fieldLink RX12 70 "JoinBenchModel" "rowRule" "[I") (by decide +kernel)) (fun _ h9 => h9) rfl hin2 rfl (by decide +kernel) rfl rfl (Nat.le_of_ble_eq_true rfl) dX12_init_160 (fun H locs c9 oq hS hz9 => ?_)
  have hw := iw_put hw h0 oq hz9
  have hO : va_at (dC, dI) vwCl (m0, .inr (12, [.ref (n0 + 0), .int (kz 0), .int (kz 0), .ref (n0 + 1), .ref (n0 + 2), .ref (n0 + 3), .ref (n0 + 4), .ref (n0 + 5), .ref (n0 + 6), .int (kz 0), .ref (n0 + 7), .ref (n0 + 8), .ref (n0 + 9), .ref (n0 + 10), .ref (n0 + 11), .ref (n0 + 12), .ref (n0 + 13), .ref (n0 + 14), .ref (n0 + 15), .ref (n0 + 16), .int (kz 1), .int (kz 0), .int (kz 0), .ref (n0 + 17), .ref (n0 + 18), .null, .int (kz 0), .null, .int (kz 0), .null, .null, .null, .null, .null, .int (kz 0), .int (kz 0), .long 0, .long 0, .int (kz 0), .int (kz 0), .null, .null, .null, .null, .null, .null, .int (kz 0), .null, .null])) H := c9
  have c17 := c17.kept (oq _ (by omega))
  clear oq c9 hz9
  refine lv_aload_n hx hb dX12_init_163 rfl (lv_at hl 0 rfl) ?_
  refine lv_sipush (v := kz 480) hx hb dX12_init_164 (by decide) ?_
  refine jz_newa (atype := .byte) (ty := .byte) (N := 480) hx hb (hts (.arrayClass .byte) (by decide +kernel)) rfl hK 1 rfl hS (a0 := (480, .inl (fun _ => 0))) rfl (by decide) (by decide) (Nat.le_of_ble_eq_true rfl) (Nat.le_of_ble_eq_true rfl) dX12_init_167 (fun x9 H hx9 c9 oq hz9 hS => ?_)
  have hx8 : x9 = n0 + 19 := hx9.trans hw.1
  rw [hx8] at c9 ⊢
  have hO := hO.kept (oq _ hO.lt)
  have hw := iw_new (t := (125, 21, 480, 0, 0)) hw c9 oq hz9 rfl iv_e21
  have c17 := c17.kept (oq _ c17.lt)
  clear oq c9 hz9 hx9 hx8
  refine iz_putF (D := (dC, dI)) (ci := 12) (v := .ref (n0 + 19)) (ty := .array .byte) (C := RX12) (T := TX12) (N := 49) hx hb hts hin tyX12 tyX12_ok nmX12 hown hK hO hS hA0 rfl 25 (by decide) (hts (.fieldLink RX12 73 "JoinBenchModel" "out" "[B") (by decide +kernel)) (fun _ h9 => h9) rfl hin2 rfl (by decide +kernel) rfl rfl (Nat.le_of_ble_eq_true rfl) dX12_init_169 (fun H locs c9 oq hS hz9 => ?_)
  have hw := iw_put hw h0 oq hz9
  have hO : va_at (dC, dI) vwCl (m0, .inr (12, [.ref (n0 + 0), .int (kz 0), .int (kz 0), .ref (n0 + 1), .ref (n0 + 2), .ref (n0 + 3), .ref (n0 + 4), .ref (n0 + 5), .ref (n0 + 6), .int (kz 0), .ref (n0 + 7), .ref (n0 + 8), .ref (n0 + 9), .ref (n0 + 10), .ref (n0 + 11), .ref (n0 + 12), .ref (n0 + 13), .ref (n0 + 14), .ref (n0 + 15), .ref (n0 + 16), .int (kz 1), .int (kz 0), .int (kz 0), .ref (n0 + 17), .ref (n0 + 18), .ref (n0 + 19), .int (kz 0), .null, .int (kz 0), .null, .null, .null, .null, .null, .int (kz 0), .int (kz 0), .long 0, .long 0, .int (kz 0), .int (kz 0), .null, .null, .null, .null, .null, .null, .int (kz 0), .null, .null])) H := c9
  have c17 := c17.kept (oq _ (by omega))
  clear oq c9 hz9
  refine lv_aload_n hx hb dX12_init_172 rfl (lv_at hl 0 rfl) ?_
  refine lv_bipush (v := kz 40) hx hb dX12_init_173 (by decide) ?_
  refine jz_newa (atype := .byte) (ty := .byte) (N := 40) hx hb (hts (.arrayClass .byte) (by decide +kernel)) rfl hK 1 rfl hS (a0 := (40, .inl (fun _ => 0))) rfl (by decide) (by decide) (Nat.le_of_ble_eq_true rfl) (Nat.le_of_ble_eq_true rfl) dX12_init_175 (fun x9 H hx9 c9 oq hz9 hS => ?_)
  have hx8 : x9 = n0 + 20 := hx9.trans hw.1
  rw [hx8] at c9 ⊢
  have hO := hO.kept (oq _ hO.lt)
  have hw := iw_new (t := (127, 21, 40, 0, 0)) hw c9 oq hz9 rfl iv_e21
  have c17 := c17.kept (oq _ c17.lt)
  clear oq c9 hz9 hx9 hx8
  refine iz_putF (D := (dC, dI)) (ci := 12) (v := .ref (n0 + 20)) (ty := .array .byte) (C := RX12) (T := TX12) (N := 49) hx hb hts hin tyX12 tyX12_ok nmX12 hown hK hO hS hA0 rfl 27 (by decide) (hts (.fieldLink RX12 76 "JoinBenchModel" "line" "[B") (by decide +kernel)) (fun _ h9 => h9) rfl hin2 rfl (by decide +kernel) rfl rfl (Nat.le_of_ble_eq_true rfl) dX12_init_177 (fun H locs c9 oq hS hz9 => ?_)
  have hw := iw_put hw h0 oq hz9
  have hO : va_at (dC, dI) vwCl (m0, .inr (12, [.ref (n0 + 0), .int (kz 0), .int (kz 0), .ref (n0 + 1), .ref (n0 + 2), .ref (n0 + 3), .ref (n0 + 4), .ref (n0 + 5), .ref (n0 + 6), .int (kz 0), .ref (n0 + 7), .ref (n0 + 8), .ref (n0 + 9), .ref (n0 + 10), .ref (n0 + 11), .ref (n0 + 12), .ref (n0 + 13), .ref (n0 + 14), .ref (n0 + 15), .ref (n0 + 16), .int (kz 1), .int (kz 0), .int (kz 0), .ref (n0 + 17), .ref (n0 + 18), .ref (n0 + 19), .int (kz 0), .ref (n0 + 20), .int (kz 0), .null, .null, .null, .null, .null, .int (kz 0), .int (kz 0), .long 0, .long 0, .int (kz 0), .int (kz 0), .null, .null, .null, .null, .null, .null, .int (kz 0), .null, .null])) H := c9
  have c17 := c17.kept (oq _ (by omega))
  clear oq c9 hz9
  refine lv_aload_n hx hb dX12_init_180 rfl (lv_at hl 0 rfl) ?_
  refine lv_sipush (v := kz 1600) hx hb dX12_init_181 (by decide) ?_
  refine jz_newa (atype := .int) (ty := .int) (N := 1600) hx hb (hts (.arrayClass .int) (by decide +kernel)) rfl hK 0 rfl hS (a0 := (1600, .inl (fun _ => 0))) rfl (by decide) (by decide) (Nat.le_of_ble_eq_true rfl) (Nat.le_of_ble_eq_true rfl) dX12_init_184 (fun x9 H hx9 c9 oq hz9 hS => ?_)
  have hx8 : x9 = n0 + 21 := hx9.trans hw.1
  rw [hx8] at c9 ⊢
  have hO := hO.kept (oq _ hO.lt)
  have hw := iw_new (t := (129, 20, 1600, -2147483648, 2147483647)) hw c9 oq hz9 rfl (iv_e20 (ok20_z (by decide)))
  have c17 := c17.kept (oq _ c17.lt)
  clear oq c9 hz9 hx9 hx8
  refine iz_putF (D := (dC, dI)) (ci := 12) (v := .ref (n0 + 21)) (ty := .array .int) (C := RX12) (T := TX12) (N := 49) hx hb hts hin tyX12 tyX12_ok nmX12 hown hK hO hS hA0 rfl 29 (by decide) (hts (.fieldLink RX12 79 "JoinBenchModel" "fit" "[I") (by decide +kernel)) (fun _ h9 => h9) rfl hin2 rfl (by decide +kernel) rfl rfl (Nat.le_of_ble_eq_true rfl) dX12_init_186 (fun H locs c9 oq hS hz9 => ?_)
  have hw := iw_put hw h0 oq hz9
  have hO : va_at (dC, dI) vwCl (m0, .inr (12, [.ref (n0 + 0), .int (kz 0), .int (kz 0), .ref (n0 + 1), .ref (n0 + 2), .ref (n0 + 3), .ref (n0 + 4), .ref (n0 + 5), .ref (n0 + 6), .int (kz 0), .ref (n0 + 7), .ref (n0 + 8), .ref (n0 + 9), .ref (n0 + 10), .ref (n0 + 11), .ref (n0 + 12), .ref (n0 + 13), .ref (n0 + 14), .ref (n0 + 15), .ref (n0 + 16), .int (kz 1), .int (kz 0), .int (kz 0), .ref (n0 + 17), .ref (n0 + 18), .ref (n0 + 19), .int (kz 0), .ref (n0 + 20), .int (kz 0), .ref (n0 + 21), .null, .null, .null, .null, .int (kz 0), .int (kz 0), .long 0, .long 0, .int (kz 0), .int (kz 0), .null, .null, .null, .null, .null, .null, .int (kz 0), .null, .null])) H := c9
  have c17 := c17.kept (oq _ (by omega))
  clear oq c9 hz9
  refine lv_aload_n hx hb dX12_init_189 rfl (lv_at hl 0 rfl) ?_
  refine lv_sipush (v := kz 6560) hx hb dX12_init_190 (by decide) ?_
  refine jz_newa (atype := .boolean) (ty := .boolean) (N := 6560) hx hb (hts (.arrayClass .boolean) (by decide +kernel)) rfl hK 2 rfl hS (a0 := (6560, .inl (fun _ => 0))) rfl (by decide) (by decide) (Nat.le_of_ble_eq_true rfl) (Nat.le_of_ble_eq_true rfl) dX12_init_193 (fun x9 H hx9 c9 oq hz9 hS => ?_)
  have hx8 : x9 = n0 + 22 := hx9.trans hw.1
  rw [hx8] at c9 ⊢
  have hO := hO.kept (oq _ hO.lt)
  have hw := iw_new (t := (130, 22, 6560, 0, 0)) hw c9 oq hz9 rfl iv_e22
  have c17 := c17.kept (oq _ c17.lt)
  clear oq c9 hz9 hx9 hx8
  refine iz_putF (D := (dC, dI)) (ci := 12) (v := .ref (n0 + 22)) (ty := .array .boolean) (C := RX12) (T := TX12) (N := 49) hx hb hts hin tyX12 tyX12_ok nmX12 hown hK hO hS hA0 rfl 30 (by decide) (hts (.fieldLink RX12 82 "JoinBenchModel" "isCome" "[Z") (by decide +kernel)) (fun _ h9 => h9) rfl hin2 rfl (by decide +kernel) rfl rfl (Nat.le_of_ble_eq_true rfl) dX12_init_195 (fun H locs c9 oq hS hz9 => ?_)
  have hw := iw_put hw h0 oq hz9
  have hO : va_at (dC, dI) vwCl (m0, .inr (12, [.ref (n0 + 0), .int (kz 0), .int (kz 0), .ref (n0 + 1), .ref (n0 + 2), .ref (n0 + 3), .ref (n0 + 4), .ref (n0 + 5), .ref (n0 + 6), .int (kz 0), .ref (n0 + 7), .ref (n0 + 8), .ref (n0 + 9), .ref (n0 + 10), .ref (n0 + 11), .ref (n0 + 12), .ref (n0 + 13), .ref (n0 + 14), .ref (n0 + 15), .ref (n0 + 16), .int (kz 1), .int (kz 0), .int (kz 0), .ref (n0 + 17), .ref (n0 + 18), .ref (n0 + 19), .int (kz 0), .ref (n0 + 20), .int (kz 0), .ref (n0 + 21), .ref (n0 + 22), .null, .null, .null, .int (kz 0), .int (kz 0), .long 0, .long 0, .int (kz 0), .int (kz 0), .null, .null, .null, .null, .null, .null, .int (kz 0), .null, .null])) H := c9
  have c17 := c17.kept (oq _ (by omega))
  clear oq c9 hz9
  refine lv_aload_n hx hb dX12_init_198 rfl (lv_at hl 0 rfl) ?_
  refine lv_sipush (v := kz 6560) hx hb dX12_init_199 (by decide) ?_
  refine jz_newa (atype := .long) (ty := .long) (N := 6560) hx hb (hts (.arrayClass .long) (by decide +kernel)) rfl hK 3 rfl hS (a0 := (6560, .inr (.inl (fun _ => 0)))) rfl (by decide) (by decide) (Nat.le_of_ble_eq_true rfl) (Nat.le_of_ble_eq_true rfl) dX12_init_202 (fun x9 H hx9 c9 oq hz9 hS => ?_)
  have hx8 : x9 = n0 + 23 := hx9.trans hw.1
  rw [hx8] at c9 ⊢
  have hO := hO.kept (oq _ hO.lt)
  have hw := iw_new (t := (131, 23, 6560, 0, 0)) hw c9 oq hz9 rfl iv_e23
  have c17 := c17.kept (oq _ c17.lt)
  clear oq c9 hz9 hx9 hx8
  refine iz_putF (D := (dC, dI)) (ci := 12) (v := .ref (n0 + 23)) (ty := .array .long) (C := RX12) (T := TX12) (N := 49) hx hb hts hin tyX12 tyX12_ok nmX12 hown hK hO hS hA0 rfl 31 (by decide) (hts (.fieldLink RX12 85 "JoinBenchModel" "ways" "[J") (by decide +kernel)) (fun _ h9 => h9) rfl hin2 rfl (by decide +kernel) rfl rfl (Nat.le_of_ble_eq_true rfl) dX12_init_204 (fun H locs c9 oq hS hz9 => ?_)
  have hw := iw_put hw h0 oq hz9
  have hO : va_at (dC, dI) vwCl (m0, .inr (12, [.ref (n0 + 0), .int (kz 0), .int (kz 0), .ref (n0 + 1), .ref (n0 + 2), .ref (n0 + 3), .ref (n0 + 4), .ref (n0 + 5), .ref (n0 + 6), .int (kz 0), .ref (n0 + 7), .ref (n0 + 8), .ref (n0 + 9), .ref (n0 + 10), .ref (n0 + 11), .ref (n0 + 12), .ref (n0 + 13), .ref (n0 + 14), .ref (n0 + 15), .ref (n0 + 16), .int (kz 1), .int (kz 0), .int (kz 0), .ref (n0 + 17), .ref (n0 + 18), .ref (n0 + 19), .int (kz 0), .ref (n0 + 20), .int (kz 0), .ref (n0 + 21), .ref (n0 + 22), .ref (n0 + 23), .null, .null, .int (kz 0), .int (kz 0), .long 0, .long 0, .int (kz 0), .int (kz 0), .null, .null, .null, .null, .null, .null, .int (kz 0), .null, .null])) H := c9
  have c17 := c17.kept (oq _ (by omega))
  clear oq c9 hz9
  refine lv_aload_n hx hb dX12_init_207 rfl (lv_at hl 0 rfl) ?_
  refine lv_ldc (own := RX12) (v := kz 52480) hx hb hown (hts (.constant RX12 89 (52480)) (by decide +kernel)) dX12_init_208 ?_
  refine jz_newa (atype := .int) (ty := .int) (N := 52480) hx hb (hts (.arrayClass .int) (by decide +kernel)) rfl hK 0 rfl hS (a0 := (52480, .inl (fun _ => 0))) rfl (by decide) (by decide) (Nat.le_of_ble_eq_true rfl) (Nat.le_of_ble_eq_true rfl) dX12_init_210 (fun x9 H hx9 c9 oq hz9 hS => ?_)
  have hx8 : x9 = n0 + 24 := hx9.trans hw.1
  rw [hx8] at c9 ⊢
  have hO := hO.kept (oq _ hO.lt)
  have hw := iw_new (t := (132, 20, 52480, -2147483648, 2147483647)) hw c9 oq hz9 rfl (iv_e20 (ok20_z (by decide)))
  have c17 := c17.kept (oq _ c17.lt)
  clear oq c9 hz9 hx9 hx8
  refine iz_putF (D := (dC, dI)) (ci := 12) (v := .ref (n0 + 24)) (ty := .array .int) (C := RX12) (T := TX12) (N := 49) hx hb hts hin tyX12 tyX12_ok nmX12 hown hK hO hS hA0 rfl 32 (by decide) (hts (.fieldLink RX12 90 "JoinBenchModel" "best" "[I") (by decide +kernel)) (fun _ h9 => h9) rfl hin2 rfl (by decide +kernel) rfl rfl (Nat.le_of_ble_eq_true rfl) dX12_init_212 (fun H locs c9 oq hS hz9 => ?_)
  have hw := iw_put hw h0 oq hz9
  have hO : va_at (dC, dI) vwCl (m0, .inr (12, [.ref (n0 + 0), .int (kz 0), .int (kz 0), .ref (n0 + 1), .ref (n0 + 2), .ref (n0 + 3), .ref (n0 + 4), .ref (n0 + 5), .ref (n0 + 6), .int (kz 0), .ref (n0 + 7), .ref (n0 + 8), .ref (n0 + 9), .ref (n0 + 10), .ref (n0 + 11), .ref (n0 + 12), .ref (n0 + 13), .ref (n0 + 14), .ref (n0 + 15), .ref (n0 + 16), .int (kz 1), .int (kz 0), .int (kz 0), .ref (n0 + 17), .ref (n0 + 18), .ref (n0 + 19), .int (kz 0), .ref (n0 + 20), .int (kz 0), .ref (n0 + 21), .ref (n0 + 22), .ref (n0 + 23), .ref (n0 + 24), .null, .int (kz 0), .int (kz 0), .long 0, .long 0, .int (kz 0), .int (kz 0), .null, .null, .null, .null, .null, .null, .int (kz 0), .null, .null])) H := c9
  have c17 := c17.kept (oq _ (by omega))
  clear oq c9 hz9
  refine lv_aload_n hx hb dX12_init_215 rfl (lv_at hl 0 rfl) ?_
  refine lv_sipush (v := kz 6560) hx hb dX12_init_216 (by decide) ?_
  refine jz_newa (atype := .int) (ty := .int) (N := 6560) hx hb (hts (.arrayClass .int) (by decide +kernel)) rfl hK 0 rfl hS (a0 := (6560, .inl (fun _ => 0))) rfl (by decide) (by decide) (Nat.le_of_ble_eq_true rfl) (Nat.le_of_ble_eq_true rfl) dX12_init_219 (fun x9 H hx9 c9 oq hz9 hS => ?_)
  have hx8 : x9 = n0 + 25 := hx9.trans hw.1
  rw [hx8] at c9 ⊢
  have hO := hO.kept (oq _ hO.lt)
  have hw := iw_new (t := (133, 20, 6560, 0, 8)) hw c9 oq hz9 rfl (iv_e20 (ok20_z (by decide)))
  have c17 := c17.kept (oq _ c17.lt)
  clear oq c9 hz9 hx9 hx8
  refine iz_putF (D := (dC, dI)) (ci := 12) (v := .ref (n0 + 25)) (ty := .array .int) (C := RX12) (T := TX12) (N := 49) hx hb hts hin tyX12 tyX12_ok nmX12 hown hK hO hS hA0 rfl 33 (by decide) (hts (.fieldLink RX12 93 "JoinBenchModel" "bestMany" "[I") (by decide +kernel)) (fun _ h9 => h9) rfl hin2 rfl (by decide +kernel) rfl rfl (Nat.le_of_ble_eq_true rfl) dX12_init_221 (fun H locs c9 oq hS hz9 => ?_)
  have hw := iw_put hw h0 oq hz9
  have hO : va_at (dC, dI) vwCl (m0, .inr (12, [.ref (n0 + 0), .int (kz 0), .int (kz 0), .ref (n0 + 1), .ref (n0 + 2), .ref (n0 + 3), .ref (n0 + 4), .ref (n0 + 5), .ref (n0 + 6), .int (kz 0), .ref (n0 + 7), .ref (n0 + 8), .ref (n0 + 9), .ref (n0 + 10), .ref (n0 + 11), .ref (n0 + 12), .ref (n0 + 13), .ref (n0 + 14), .ref (n0 + 15), .ref (n0 + 16), .int (kz 1), .int (kz 0), .int (kz 0), .ref (n0 + 17), .ref (n0 + 18), .ref (n0 + 19), .int (kz 0), .ref (n0 + 20), .int (kz 0), .ref (n0 + 21), .ref (n0 + 22), .ref (n0 + 23), .ref (n0 + 24), .ref (n0 + 25), .int (kz 0), .int (kz 0), .long 0, .long 0, .int (kz 0), .int (kz 0), .null, .null, .null, .null, .null, .null, .int (kz 0), .null, .null])) H := c9
  have c17 := c17.kept (oq _ (by omega))
  clear oq c9 hz9
  refine lv_aload_n hx hb dX12_init_224 rfl (lv_at hl 0 rfl) ?_
  refine lv_bipush (v := kz 8) hx hb dX12_init_225 (by decide) ?_
  refine jz_newa (atype := .int) (ty := .int) (N := 8) hx hb (hts (.arrayClass .int) (by decide +kernel)) rfl hK 0 rfl hS (a0 := (8, .inl (fun _ => 0))) rfl (by decide) (by decide) (Nat.le_of_ble_eq_true rfl) (Nat.le_of_ble_eq_true rfl) dX12_init_227 (fun x9 H hx9 c9 oq hz9 hS => ?_)
  have hx8 : x9 = n0 + 26 := hx9.trans hw.1
  rw [hx8] at c9 ⊢
  have hO := hO.kept (oq _ hO.lt)
  have hw := iw_new (t := (140, 20, 8, -2147483648, 2147483647)) hw c9 oq hz9 rfl (iv_e20 (ok20_z (by decide)))
  have c17 := c17.kept (oq _ c17.lt)
  clear oq c9 hz9 hx9 hx8
  refine iz_putF (D := (dC, dI)) (ci := 12) (v := .ref (n0 + 26)) (ty := .array .int) (C := RX12) (T := TX12) (N := 49) hx hb hts hin tyX12 tyX12_ok nmX12 hown hK hO hS hA0 rfl 40 (by decide) (hts (.fieldLink RX12 96 "JoinBenchModel" "toldCost" "[I") (by decide +kernel)) (fun _ h9 => h9) rfl hin2 rfl (by decide +kernel) rfl rfl (Nat.le_of_ble_eq_true rfl) dX12_init_229 (fun H locs c9 oq hS hz9 => ?_)
  have hw := iw_put hw h0 oq hz9
  have hO : va_at (dC, dI) vwCl (m0, .inr (12, [.ref (n0 + 0), .int (kz 0), .int (kz 0), .ref (n0 + 1), .ref (n0 + 2), .ref (n0 + 3), .ref (n0 + 4), .ref (n0 + 5), .ref (n0 + 6), .int (kz 0), .ref (n0 + 7), .ref (n0 + 8), .ref (n0 + 9), .ref (n0 + 10), .ref (n0 + 11), .ref (n0 + 12), .ref (n0 + 13), .ref (n0 + 14), .ref (n0 + 15), .ref (n0 + 16), .int (kz 1), .int (kz 0), .int (kz 0), .ref (n0 + 17), .ref (n0 + 18), .ref (n0 + 19), .int (kz 0), .ref (n0 + 20), .int (kz 0), .ref (n0 + 21), .ref (n0 + 22), .ref (n0 + 23), .ref (n0 + 24), .ref (n0 + 25), .int (kz 0), .int (kz 0), .long 0, .long 0, .int (kz 0), .int (kz 0), .ref (n0 + 26), .null, .null, .null, .null, .null, .int (kz 0), .null, .null])) H := c9
  have c17 := c17.kept (oq _ (by omega))
  clear oq c9 hz9
  refine lv_aload_n hx hb dX12_init_232 rfl (lv_at hl 0 rfl) ?_
  refine lv_bipush (v := kz 8) hx hb dX12_init_233 (by decide) ?_
  refine jz_newa (atype := .int) (ty := .int) (N := 8) hx hb (hts (.arrayClass .int) (by decide +kernel)) rfl hK 0 rfl hS (a0 := (8, .inl (fun _ => 0))) rfl (by decide) (by decide) (Nat.le_of_ble_eq_true rfl) (Nat.le_of_ble_eq_true rfl) dX12_init_235 (fun x9 H hx9 c9 oq hz9 hS => ?_)
  have hx8 : x9 = n0 + 27 := hx9.trans hw.1
  rw [hx8] at c9 ⊢
  have hO := hO.kept (oq _ hO.lt)
  have hw := iw_new (t := (141, 20, 8, 0, 40)) hw c9 oq hz9 rfl (iv_e20 (ok20_z (by decide)))
  have c17 := c17.kept (oq _ c17.lt)
  clear oq c9 hz9 hx9 hx8
  refine iz_putF (D := (dC, dI)) (ci := 12) (v := .ref (n0 + 27)) (ty := .array .int) (C := RX12) (T := TX12) (N := 49) hx hb hts hin tyX12 tyX12_ok nmX12 hown hK hO hS hA0 rfl 41 (by decide) (hts (.fieldLink RX12 99 "JoinBenchModel" "toldMany" "[I") (by decide +kernel)) (fun _ h9 => h9) rfl hin2 rfl (by decide +kernel) rfl rfl (Nat.le_of_ble_eq_true rfl) dX12_init_237 (fun H locs c9 oq hS hz9 => ?_)
  have hw := iw_put hw h0 oq hz9
  have hO : va_at (dC, dI) vwCl (m0, .inr (12, [.ref (n0 + 0), .int (kz 0), .int (kz 0), .ref (n0 + 1), .ref (n0 + 2), .ref (n0 + 3), .ref (n0 + 4), .ref (n0 + 5), .ref (n0 + 6), .int (kz 0), .ref (n0 + 7), .ref (n0 + 8), .ref (n0 + 9), .ref (n0 + 10), .ref (n0 + 11), .ref (n0 + 12), .ref (n0 + 13), .ref (n0 + 14), .ref (n0 + 15), .ref (n0 + 16), .int (kz 1), .int (kz 0), .int (kz 0), .ref (n0 + 17), .ref (n0 + 18), .ref (n0 + 19), .int (kz 0), .ref (n0 + 20), .int (kz 0), .ref (n0 + 21), .ref (n0 + 22), .ref (n0 + 23), .ref (n0 + 24), .ref (n0 + 25), .int (kz 0), .int (kz 0), .long 0, .long 0, .int (kz 0), .int (kz 0), .ref (n0 + 26), .ref (n0 + 27), .null, .null, .null, .null, .int (kz 0), .null, .null])) H := c9
  have c17 := c17.kept (oq _ (by omega))
  clear oq c9 hz9
  refine lv_aload_n hx hb dX12_init_240 rfl (lv_at hl 0 rfl) ?_
  refine lv_sipush (v := kz 320) hx hb dX12_init_241 (by decide) ?_
  refine jz_newa (atype := .int) (ty := .int) (N := 320) hx hb (hts (.arrayClass .int) (by decide +kernel)) rfl hK 0 rfl hS (a0 := (320, .inl (fun _ => 0))) rfl (by decide) (by decide) (Nat.le_of_ble_eq_true rfl) (Nat.le_of_ble_eq_true rfl) dX12_init_244 (fun x9 H hx9 c9 oq hz9 hS => ?_)
  have hx8 : x9 = n0 + 28 := hx9.trans hw.1
  rw [hx8] at c9 ⊢
  have hO := hO.kept (oq _ hO.lt)
  have hw := iw_new (t := (142, 20, 320, 0, 39)) hw c9 oq hz9 rfl (iv_e20 (ok20_z (by decide)))
  have c17 := c17.kept (oq _ c17.lt)
  clear oq c9 hz9 hx9 hx8
  refine iz_putF (D := (dC, dI)) (ci := 12) (v := .ref (n0 + 28)) (ty := .array .int) (C := RX12) (T := TX12) (N := 49) hx hb hts hin tyX12 tyX12_ok nmX12 hown hK hO hS hA0 rfl 42 (by decide) (hts (.fieldLink RX12 102 "JoinBenchModel" "toldForm" "[I") (by decide +kernel)) (fun _ h9 => h9) rfl hin2 rfl (by decide +kernel) rfl rfl (Nat.le_of_ble_eq_true rfl) dX12_init_246 (fun H locs c9 oq hS hz9 => ?_)
  have hw := iw_put hw h0 oq hz9
  have hO : va_at (dC, dI) vwCl (m0, .inr (12, [.ref (n0 + 0), .int (kz 0), .int (kz 0), .ref (n0 + 1), .ref (n0 + 2), .ref (n0 + 3), .ref (n0 + 4), .ref (n0 + 5), .ref (n0 + 6), .int (kz 0), .ref (n0 + 7), .ref (n0 + 8), .ref (n0 + 9), .ref (n0 + 10), .ref (n0 + 11), .ref (n0 + 12), .ref (n0 + 13), .ref (n0 + 14), .ref (n0 + 15), .ref (n0 + 16), .int (kz 1), .int (kz 0), .int (kz 0), .ref (n0 + 17), .ref (n0 + 18), .ref (n0 + 19), .int (kz 0), .ref (n0 + 20), .int (kz 0), .ref (n0 + 21), .ref (n0 + 22), .ref (n0 + 23), .ref (n0 + 24), .ref (n0 + 25), .int (kz 0), .int (kz 0), .long 0, .long 0, .int (kz 0), .int (kz 0), .ref (n0 + 26), .ref (n0 + 27), .ref (n0 + 28), .null, .null, .null, .int (kz 0), .null, .null])) H := c9
  have c17 := c17.kept (oq _ (by omega))
  clear oq c9 hz9
  refine lv_aload_n hx hb dX12_init_249 rfl (lv_at hl 0 rfl) ?_
  refine lv_sipush (v := kz 320) hx hb dX12_init_250 (by decide) ?_
  refine jz_newa (atype := .int) (ty := .int) (N := 320) hx hb (hts (.arrayClass .int) (by decide +kernel)) rfl hK 0 rfl hS (a0 := (320, .inl (fun _ => 0))) rfl (by decide) (by decide) (Nat.le_of_ble_eq_true rfl) (Nat.le_of_ble_eq_true rfl) dX12_init_253 (fun x9 H hx9 c9 oq hz9 hS => ?_)
  have hx8 : x9 = n0 + 29 := hx9.trans hw.1
  rw [hx8] at c9 ⊢
  have hO := hO.kept (oq _ hO.lt)
  have hw := iw_new (t := (143, 20, 320, -2147483648, 2147483647)) hw c9 oq hz9 rfl (iv_e20 (ok20_z (by decide)))
  have c17 := c17.kept (oq _ c17.lt)
  clear oq c9 hz9 hx9 hx8
  refine iz_putF (D := (dC, dI)) (ci := 12) (v := .ref (n0 + 29)) (ty := .array .int) (C := RX12) (T := TX12) (N := 49) hx hb hts hin tyX12 tyX12_ok nmX12 hown hK hO hS hA0 rfl 43 (by decide) (hts (.fieldLink RX12 105 "JoinBenchModel" "toldRule" "[I") (by decide +kernel)) (fun _ h9 => h9) rfl hin2 rfl (by decide +kernel) rfl rfl (Nat.le_of_ble_eq_true rfl) dX12_init_255 (fun H locs c9 oq hS hz9 => ?_)
  have hw := iw_put hw h0 oq hz9
  have hO : va_at (dC, dI) vwCl (m0, .inr (12, [.ref (n0 + 0), .int (kz 0), .int (kz 0), .ref (n0 + 1), .ref (n0 + 2), .ref (n0 + 3), .ref (n0 + 4), .ref (n0 + 5), .ref (n0 + 6), .int (kz 0), .ref (n0 + 7), .ref (n0 + 8), .ref (n0 + 9), .ref (n0 + 10), .ref (n0 + 11), .ref (n0 + 12), .ref (n0 + 13), .ref (n0 + 14), .ref (n0 + 15), .ref (n0 + 16), .int (kz 1), .int (kz 0), .int (kz 0), .ref (n0 + 17), .ref (n0 + 18), .ref (n0 + 19), .int (kz 0), .ref (n0 + 20), .int (kz 0), .ref (n0 + 21), .ref (n0 + 22), .ref (n0 + 23), .ref (n0 + 24), .ref (n0 + 25), .int (kz 0), .int (kz 0), .long 0, .long 0, .int (kz 0), .int (kz 0), .ref (n0 + 26), .ref (n0 + 27), .ref (n0 + 28), .ref (n0 + 29), .null, .null, .int (kz 0), .null, .null])) H := c9
  have c17 := c17.kept (oq _ (by omega))
  clear oq c9 hz9
  refine lv_aload_n hx hb dX12_init_258 rfl (lv_at hl 0 rfl) ?_
  refine lv_bipush (v := kz 40) hx hb dX12_init_259 (by decide) ?_
  refine jz_newa (atype := .int) (ty := .int) (N := 40) hx hb (hts (.arrayClass .int) (by decide +kernel)) rfl hK 0 rfl hS (a0 := (40, .inl (fun _ => 0))) rfl (by decide) (by decide) (Nat.le_of_ble_eq_true rfl) (Nat.le_of_ble_eq_true rfl) dX12_init_261 (fun x9 H hx9 c9 oq hz9 hS => ?_)
  have hx8 : x9 = n0 + 30 := hx9.trans hw.1
  rw [hx8] at c9 ⊢
  have hO := hO.kept (oq _ hO.lt)
  have hw := iw_new (t := (144, 20, 40, 0, 8)) hw c9 oq hz9 rfl (iv_e20 (ok20_z (by decide)))
  have c17 := c17.kept (oq _ c17.lt)
  clear oq c9 hz9 hx9 hx8
  refine iz_putF (D := (dC, dI)) (ci := 12) (v := .ref (n0 + 30)) (ty := .array .int) (C := RX12) (T := TX12) (N := 49) hx hb hts hin tyX12 tyX12_ok nmX12 hown hK hO hS hA0 rfl 44 (by decide) (hts (.fieldLink RX12 108 "JoinBenchModel" "nextOf" "[I") (by decide +kernel)) (fun _ h9 => h9) rfl hin2 rfl (by decide +kernel) rfl rfl (Nat.le_of_ble_eq_true rfl) dX12_init_263 (fun H locs c9 oq hS hz9 => ?_)
  have hw := iw_put hw h0 oq hz9
  have hO : va_at (dC, dI) vwCl (m0, .inr (12, [.ref (n0 + 0), .int (kz 0), .int (kz 0), .ref (n0 + 1), .ref (n0 + 2), .ref (n0 + 3), .ref (n0 + 4), .ref (n0 + 5), .ref (n0 + 6), .int (kz 0), .ref (n0 + 7), .ref (n0 + 8), .ref (n0 + 9), .ref (n0 + 10), .ref (n0 + 11), .ref (n0 + 12), .ref (n0 + 13), .ref (n0 + 14), .ref (n0 + 15), .ref (n0 + 16), .int (kz 1), .int (kz 0), .int (kz 0), .ref (n0 + 17), .ref (n0 + 18), .ref (n0 + 19), .int (kz 0), .ref (n0 + 20), .int (kz 0), .ref (n0 + 21), .ref (n0 + 22), .ref (n0 + 23), .ref (n0 + 24), .ref (n0 + 25), .int (kz 0), .int (kz 0), .long 0, .long 0, .int (kz 0), .int (kz 0), .ref (n0 + 26), .ref (n0 + 27), .ref (n0 + 28), .ref (n0 + 29), .ref (n0 + 30), .null, .int (kz 0), .null, .null])) H := c9
  have c17 := c17.kept (oq _ (by omega))
  clear oq c9 hz9
  refine lv_aload_n hx hb dX12_init_266 rfl (lv_at hl 0 rfl) ?_
  refine lv_sipush (v := kz 9600) hx hb dX12_init_267 (by decide) ?_
  refine jz_newa (atype := .long) (ty := .long) (N := 9600) hx hb (hts (.arrayClass .long) (by decide +kernel)) rfl hK 3 rfl hS (a0 := (9600, .inr (.inl (fun _ => 0)))) rfl (by decide) (by decide) (Nat.le_of_ble_eq_true rfl) (Nat.le_of_ble_eq_true rfl) dX12_init_270 (fun x9 H hx9 c9 oq hz9 hS => ?_)
  have hx8 : x9 = n0 + 31 := hx9.trans hw.1
  rw [hx8] at c9 ⊢
  have hO := hO.kept (oq _ hO.lt)
  have hw := iw_new (t := (145, 23, 9600, 0, 0)) hw c9 oq hz9 rfl iv_e23
  have c17 := c17.kept (oq _ c17.lt)
  clear oq c9 hz9 hx9 hx8
  refine iz_putF (D := (dC, dI)) (ci := 12) (v := .ref (n0 + 31)) (ty := .array .long) (C := RX12) (T := TX12) (N := 49) hx hb hts hin tyX12 tyX12_ok nmX12 hown hK hO hS hA0 rfl 45 (by decide) (hts (.fieldLink RX12 111 "JoinBenchModel" "grown" "[J") (by decide +kernel)) (fun _ h9 => h9) rfl hin2 rfl (by decide +kernel) rfl rfl (Nat.le_of_ble_eq_true rfl) dX12_init_272 (fun H locs c9 oq hS hz9 => ?_)
  have hw := iw_put hw h0 oq hz9
  have hO : va_at (dC, dI) vwCl (m0, .inr (12, [.ref (n0 + 0), .int (kz 0), .int (kz 0), .ref (n0 + 1), .ref (n0 + 2), .ref (n0 + 3), .ref (n0 + 4), .ref (n0 + 5), .ref (n0 + 6), .int (kz 0), .ref (n0 + 7), .ref (n0 + 8), .ref (n0 + 9), .ref (n0 + 10), .ref (n0 + 11), .ref (n0 + 12), .ref (n0 + 13), .ref (n0 + 14), .ref (n0 + 15), .ref (n0 + 16), .int (kz 1), .int (kz 0), .int (kz 0), .ref (n0 + 17), .ref (n0 + 18), .ref (n0 + 19), .int (kz 0), .ref (n0 + 20), .int (kz 0), .ref (n0 + 21), .ref (n0 + 22), .ref (n0 + 23), .ref (n0 + 24), .ref (n0 + 25), .int (kz 0), .int (kz 0), .long 0, .long 0, .int (kz 0), .int (kz 0), .ref (n0 + 26), .ref (n0 + 27), .ref (n0 + 28), .ref (n0 + 29), .ref (n0 + 30), .ref (n0 + 31), .int (kz 0), .null, .null])) H := c9
  have c17 := c17.kept (oq _ (by omega))
  clear oq c9 hz9
  refine lv_aload_n hx hb dX12_init_275 rfl (lv_at hl 0 rfl) ?_
  refine lv_bipush (v := kz 31) hx hb dX12_init_276 (by decide) ?_
  refine jz_newa (atype := .int) (ty := .int) (N := 31) hx hb (hts (.arrayClass .int) (by decide +kernel)) rfl hK 0 rfl hS (a0 := (31, .inl (fun _ => 0))) rfl (by decide) (by decide) (Nat.le_of_ble_eq_true rfl) (Nat.le_of_ble_eq_true rfl) dX12_init_278 (fun x9 H hx9 c9 oq hz9 hS => ?_)
  have hx8 : x9 = n0 + 32 := hx9.trans hw.1
  rw [hx8] at c9 ⊢
  have hO := hO.kept (oq _ hO.lt)
  have hw := iw_new (t := (147, 20, 31, 0, 40)) hw c9 oq hz9 rfl (iv_e20 (ok20_z (by decide)))
  have c17 := c17.kept (oq _ c17.lt)
  clear oq c9 hz9 hx9 hx8
  refine iz_putF (D := (dC, dI)) (ci := 12) (v := .ref (n0 + 32)) (ty := .array .int) (C := RX12) (T := TX12) (N := 49) hx hb hts hin tyX12 tyX12_ok nmX12 hown hK hO hS hA0 rfl 47 (by decide) (hts (.fieldLink RX12 114 "JoinBenchModel" "formsThen" "[I") (by decide +kernel)) (fun _ h9 => h9) rfl hin2 rfl (by decide +kernel) rfl rfl (Nat.le_of_ble_eq_true rfl) dX12_init_280 (fun H locs c9 oq hS hz9 => ?_)
  have hw := iw_put hw h0 oq hz9
  have hO : va_at (dC, dI) vwCl (m0, .inr (12, [.ref (n0 + 0), .int (kz 0), .int (kz 0), .ref (n0 + 1), .ref (n0 + 2), .ref (n0 + 3), .ref (n0 + 4), .ref (n0 + 5), .ref (n0 + 6), .int (kz 0), .ref (n0 + 7), .ref (n0 + 8), .ref (n0 + 9), .ref (n0 + 10), .ref (n0 + 11), .ref (n0 + 12), .ref (n0 + 13), .ref (n0 + 14), .ref (n0 + 15), .ref (n0 + 16), .int (kz 1), .int (kz 0), .int (kz 0), .ref (n0 + 17), .ref (n0 + 18), .ref (n0 + 19), .int (kz 0), .ref (n0 + 20), .int (kz 0), .ref (n0 + 21), .ref (n0 + 22), .ref (n0 + 23), .ref (n0 + 24), .ref (n0 + 25), .int (kz 0), .int (kz 0), .long 0, .long 0, .int (kz 0), .int (kz 0), .ref (n0 + 26), .ref (n0 + 27), .ref (n0 + 28), .ref (n0 + 29), .ref (n0 + 30), .ref (n0 + 31), .int (kz 0), .ref (n0 + 32), .null])) H := c9
  have c17 := c17.kept (oq _ (by omega))
  clear oq c9 hz9
  refine lv_aload_n hx hb dX12_init_283 rfl (lv_at hl 0 rfl) ?_
  refine lv_sipush (v := kz 1860) hx hb dX12_init_284 (by decide) ?_
  refine jz_newa (atype := .int) (ty := .int) (N := 1860) hx hb (hts (.arrayClass .int) (by decide +kernel)) rfl hK 0 rfl hS (a0 := (1860, .inl (fun _ => 0))) rfl (by decide) (by decide) (Nat.le_of_ble_eq_true rfl) (Nat.le_of_ble_eq_true rfl) dX12_init_287 (fun x9 H hx9 c9 oq hz9 hS => ?_)
  have hx8 : x9 = n0 + 33 := hx9.trans hw.1
  rw [hx8] at c9 ⊢
  have hO := hO.kept (oq _ hO.lt)
  have hw := iw_new (t := (148, 20, 1860, -2147483648, 2147483647)) hw c9 oq hz9 rfl (iv_e20 (ok20_z (by decide)))
  have c17 := c17.kept (oq _ c17.lt)
  clear oq c9 hz9 hx9 hx8
  refine iz_putF (D := (dC, dI)) (ci := 12) (v := .ref (n0 + 33)) (ty := .array .int) (C := RX12) (T := TX12) (N := 49) hx hb hts hin tyX12 tyX12_ok nmX12 hown hK hO hS hA0 rfl 48 (by decide) (hts (.fieldLink RX12 117 "JoinBenchModel" "were" "[I") (by decide +kernel)) (fun _ h9 => h9) rfl hin2 rfl (by decide +kernel) rfl rfl (Nat.le_of_ble_eq_true rfl) dX12_init_289 (fun H locs c9 oq hS hz9 => ?_)
  have hw := iw_put hw h0 oq hz9
  have hO : va_at (dC, dI) vwCl (m0, .inr (12, [.ref (n0 + 0), .int (kz 0), .int (kz 0), .ref (n0 + 1), .ref (n0 + 2), .ref (n0 + 3), .ref (n0 + 4), .ref (n0 + 5), .ref (n0 + 6), .int (kz 0), .ref (n0 + 7), .ref (n0 + 8), .ref (n0 + 9), .ref (n0 + 10), .ref (n0 + 11), .ref (n0 + 12), .ref (n0 + 13), .ref (n0 + 14), .ref (n0 + 15), .ref (n0 + 16), .int (kz 1), .int (kz 0), .int (kz 0), .ref (n0 + 17), .ref (n0 + 18), .ref (n0 + 19), .int (kz 0), .ref (n0 + 20), .int (kz 0), .ref (n0 + 21), .ref (n0 + 22), .ref (n0 + 23), .ref (n0 + 24), .ref (n0 + 25), .int (kz 0), .int (kz 0), .long 0, .long 0, .int (kz 0), .int (kz 0), .ref (n0 + 26), .ref (n0 + 27), .ref (n0 + 28), .ref (n0 + 29), .ref (n0 + 30), .ref (n0 + 31), .int (kz 0), .ref (n0 + 32), .ref (n0 + 33)])) H := c9
  have c17 := c17.kept (oq _ (by omega))
  clear oq c9 hz9
  have hI := iw_iv hw hA
  have hM : mS (mX n0) A m0 (mam n0) := mX_S h0 hA0
  have hO : va_at (dC, dI) vwCl (m0, .inr (12, mM (mam n0) mzi mzl)) H := hO
  have g18 : (mX n0).1 (mam n0 18) = (118, 20, 36, -1, 5) := hM.1 18 _ rfl (by decide)
  have w18 : (mX n0).2 (mam n0 18) = 0 := rfl
  clear hw hsz
  have c17 : va_at (dC, dI) vwCl (mam n0 17, .inl (ca 22, 36, .inl (fun _ => 0))) H := c17
  have g17 : (mX n0).1 (mam n0 17) = (117, 22, 36, 0, 0) := hM.1 17 _ rfl (by decide)
  generalize mX n0 = X at hI hM g17 g18 w18 ⊢
  generalize mam n0 = am at hM hO g17 g18 w18 c17 ⊢
  refine lv_iconst (v := kz 0) hx hb dX12_init_292 rfl ?_
  refine lv_istore_n (lv' := [(1, .int (kz 0)), (0, .ref m0)]) hx hb dX12_init_293 rfl hl (by decide) rfl (fun ls hl => ?_)
  obtain ⟨f18, c18, k18⟩ := iv_o20 hI g18
  refine iz_loop1 (P := fun N9 k H locs ls => 0 ≤ k ∧ k ≤ 36 ∧ 36 - k ≤ (N9 : Int) ∧ lv_has ls 2 [(1, .int (kz k)), (0, .ref m0)] ∧ iv (dC, dI) ca A X H ∧ va_at (dC, dI) vwCl (m0, .inr (12, mM am mzi mzl)) H ∧ va_S A s.heap H locs ∧ va_at (dC, dI) vwCl (am 17, .inl (ca 22, 36, .inl (fun _ => 0))) H ∧ ∃ f : Nat → Int32, va_at (dC, dI) vwCl (am 18, .inl (ca 20, 36, .inl f)) H ∧ ok20 X (am 18) 36 (-1) 5 f ∧ ∀ j : Nat, (j : Int) < k → f j = kz (-1)) 36 (x0 := 0) ?_ ⟨by omega, by omega, by omega, lv_sub hl [0, 1] rfl, hI, hO, hS, c17, f18, c18, k18, fun j h9 => absurd h9 (by omega)⟩
  clear hI hO hS hl c17 c18 k18
  intro n_1 k H locs ls ⟨n_1f0, n_1f1, n_1f2, hl, hI, hO, hS, c17, f18_7, c_f18_7, k_f18_7, hf9⟩ ihn_1
  refine lv_iload_n hx hb dX12_init_294 rfl (lv_at hl 0 rfl) ?_
  refine lv_bipush (v := kz 36) hx hb dX12_init_295 (by decide) ?_
  refine iz_ge (tgt := 313) hx hb dX12_init_297 (by decide) (by unfold rg2; omega) (fun br_2 => ?_) (fun br_2 => ?_)
  · exact W.vret hx hb hr (fun t9 ht hW => ⟨⟨(), rfl, trivial, va_K.moved hW.alike hK, by rw [ht]; exact ⟨⟨hI, hO⟩, c17, f18_7, fun j hj => hf9 j (by omega), c_f18_7⟩⟩, hS.F ht⟩) hS.2.2 dX12_init_313
  · refine lv_aload_n hx hb dX12_init_300 rfl (lv_at hl 1 rfl) ?_
    refine iz_get (D := (dC, dI)) (ci := 12) (v := .ref (am 18)) (C := RX12) (T := TX12) (N := 49) hx hb hts hin hown hK hO rfl 18 (by decide) (hts (.fieldLink RX12 57 "JoinBenchModel" "tree" "[I") (by decide +kernel)) (fun _ h9 => h9) rfl dX12_init_301 ?_
    refine lv_iload_n hx hb dX12_init_304 rfl (lv_at hl 0 rfl) ?_
    refine lv_iconst (v := kz (-1)) hx hb dX12_init_305 rfl ?_
    refine iz_iast hx hb hK 0 c_f18_7 hS (iv_A hI g18 (by decide)) rfl (by omega) (by decide) dX12_init_306 (fun H locs c9 oq hS => ?_)
    have hI := iv_s20 hI g18 k_f18_7 c9 oq (by omega) (by omega) (by decide) (by omega)
    have hO := hO.kept (oq _ (iv_ne0 g18 hM.2.1 (by decide)).symm)
    have c17 := c17.kept (oq _ (kn_ne g17 g18 (show (117 : Nat) ≠ 118 by decide)))
    have k18 := ok20_set k_f18_7 (z := k) (x := -1) (by omega) (by omega) (by decide) (by omega)
    have hf9 : ∀ j : Nat, (j : Int) < k + 1 → upd f18_7 k.toNat (kz (-1)) j = kz (-1) := fun j hj => by
      unfold upd
      by_cases e9 : j = k.toNat
      · rw [if_pos e9]
      · rw [if_neg e9]; exact hf9 j (by omega)
    clear oq
    refine lv_iinc (v := kz (k + 1)) (lv' := [(1, .int (kz (k + 1))), (0, .ref m0)]) hx hb dX12_init_307 hl (k := 0) rfl (kz_add k 1) (by decide) rfl (fun ls hl => ?_)
    refine lv_goto (tgt := 294) hx hb dX12_init_310 (by decide) ?_
    exact ihn_1 (n_1 - 1) (by omega) (k + 1) _ _ _ ⟨by omega, by omega, by omega, lv_sub hl [0, 1] rfl, hI, hO, hS, c17, _, c9, k18, hf9⟩
