set_option maxHeartbeats 4000000 in
set_option maxRecDepth 100000 in
/-- X10_init -/
theorem k_Trees (l : Launch) (dC : Nat → ClassId) (dI : Nat → Nat → Nat) (ca : Nat → ClassId) (X : jG) (hU : jU X) (a0 n0 : Nat) (h0_a0 : (X.1 a0).2.1 = 0) (hno_10 : ∀ q : Nat, X.1 q ≠ (10, 30, 0, 0, 0)) (hno_229 : ∀ q : Nat, X.1 q ≠ (229, 20, 36, -1, 5)) : Met l yX10_init wsX10_init ({ frames := 1, cells := 1, slots := 36, locals := 23 }) (va_Pc [.ref a0] (fun U => U.heap.size = n0 ∧ jK (dC, dI) ca U ∧ jv (dC, dI) ca (fun _ => True) X U.heap ∧ va_at (dC, dI) vwCl (a0, .inr (10, [.null, .null])) U.heap)) (va_Qv (fun (u : jG) => jnw X u a0 n0 (10, 30, 0, 0, 0) Lt10) (fun u U => jK (dC, dI) ca U ∧ jv (dC, dI) ca (fun _ => True) u U.heap) (jA a0 n0)) 1 36 (jA a0 n0) := by
  refine Met.ofW (cc := cX10_init) (maxL := 1) (ret := none) (by decide) rfl ?_
  intro p e s m args below meth c s₁ B hml hv
  obtain ⟨rfl, hsz, ⟨hK, hN⟩, hI, c_a0⟩ := hv
  have hx := B.exec
  have hb := B.bytes
  have hr := B.returns
  have hts := atoms_spec (ws := wsX10_init) B.pre
  have hown : s.vm.findClass RX10 = some m.cls := findClass_of_methodNamed B.named
  have hin : meth.name = "<init>" := (name_of_methodNamed B.named B.method).1
  have hL9 := hts (.fieldLink RX10 9 "JoinBench$Trees" "kinds" "[I") (by decide +kernel)
  have hL15 := hts (.fieldLink RX10 15 "JoinBench$Trees" "ways" "[[J") (by decide +kernel)
  have hinX10 : ∀ w ∈ u_ws RX10 TX10 2, w ∈ wsX10_init := by decide +kernel
  have hJ := nw_rf X a0 n0 Lt10
  generalize hAe : jA a0 n0 = A
  have hA : ∀ q : Nat, n0 ≤ q → A q := fun q h => by rw [← hAe]; exact Or.inr h
  have hA0 : A a0 := by rw [← hAe]; exact Or.inl rfl
  obtain ⟨H, hH⟩ : ∃ H : Heap, H = s.heap := ⟨_, rfl⟩
  have hS : va_S A s.heap H [] := by rw [hH]; exact va_S.rf
  have hzH : n0 ≤ H.size := by have h8 := hS.1; omega
  rw [← hH] at hI c_a0 ⊢
  clear hH
  have hl := lv_entry ([.ref a0]) (n := 1) (Nat.le_of_ble_eq_true rfl)
  rw [lg_entry_eq]
  generalize (lg_sl ([.ref a0]) ++ List.replicate (1 - (lg_sl ([.ref a0])).length) Slot.unset).toArray = ls at hl ⊢
  have hl : lv_has ls 1 [(0, .ref a0)] := hl
  refine lv_aload_n hx hb dX10_init_0 rfl (lv_at hl 0 rfl) ?_
  refine W.objInit hx hb hown (hts (.methodLink RX10 3 objectInit) (by decide +kernel)) (hts (.instanceMethod objectInit) (by decide +kernel)) (hts _ (List.mem_of_getElem? (i := 3) rfl)) rfl (by rw [hml]; exact hl.1) rfl dX10_init_1 (Nat.le_of_ble_eq_true rfl) (Nat.le_of_ble_eq_true rfl) ?_
  refine lv_aload_n hx hb dX10_init_4 rfl (lv_at hl 0 rfl) ?_
  refine lv_bipush (v := kz 36) hx hb dX10_init_5 (by decide) ?_
  have hzH : n0 ≤ H.size := by have h8 := hS.1; omega
  refine jz_newa (atype := .int) (ty := .int) (N := 36) hx hb (hts (.arrayClass .int) (by decide +kernel)) rfl hK 0 rfl hS (a0 := (36, .inl (fun _ => 0))) rfl (by decide) (by decide) (Nat.le_of_ble_eq_true rfl) (Nat.le_of_ble_eq_true rfl) dX10_init_7 (fun x_1 H hx9 c_x_1 oq hz9 hS => ?_)
  have h0_x_1 : (X.1 x_1).2.1 = 0 := jv_out hI (by omega)
  have hge_x_1 : n0 ≤ x_1 := by omega
  have hne_x_1_a0 : x_1 ≠ a0 := by have h9 := c_a0.lt; omega
  have c_a0 := c_a0.kept (oq _ c_a0.lt)
  have hI := jv_keep hI (fun q hq => oq q (jv_lt hI hq))
  clear oq hz9 hx9
  refine iz_putF (D := (dC, dI)) (ci := 10) (v := .ref x_1) (ty := .array .int) (C := RX10) (T := TX10) (N := 2) hx hb hts hinX10 tyX10 tyX10_ok nmX10 hown hK c_a0 hS hA0 rfl 0 (by decide) hL9 (fun _ h9 => h9) rfl hin rfl (by decide +kernel) rfl rfl (Nat.le_of_ble_eq_true rfl) dX10_init_9 (fun H locs c9 oq hS hz9 => ?_)
  clear hz9
  have hI := jv_skip hI h0_a0 oq
  have c_x_1 := c_x_1.kept (oq _ hne_x_1_a0)
  have c_a0 := c9
  clear oq c9
  refine lv_aload_n hx hb dX10_init_12 rfl (lv_at hl 0 rfl) ?_
  refine lv_null hx hb dX10_init_13 ?_
  refine iz_put (D := (dC, dI)) (ci := 10) (v := .null) (ty := .array (.array .long)) (C := RX10) (T := TX10) (N := 2) hx hb hts hinX10 tyX10 tyX10_ok nmX10 hown hK c_a0 hS hA0 rfl 1 (by decide) hL15 (fun _ h9 => h9) rfl (by decide +kernel) rfl rfl (Nat.le_of_ble_eq_true rfl) dX10_init_14 (fun H locs c9 oq hS => ?_)
  have hI := jv_skip hI h0_a0 oq
  have c_x_1 := c_x_1.kept (oq _ hne_x_1_a0)
  have c_a0 := c9
  clear oq c9
  refine lv_aload_n hx hb dX10_init_17 rfl (lv_at hl 0 rfl) ?_
  refine iz_get (D := (dC, dI)) (ci := 10) (v := .ref x_1) (C := RX10) (T := TX10) (N := 2) hx hb hts hinX10 hown hK c_a0 rfl 0 (by decide) hL9 (fun _ h9 => h9) rfl dX10_init_18 ?_
  refine lv_iconst (v := kz (-1)) hx hb dX10_init_21 rfl ?_
  have hzH : n0 ≤ H.size := by have h8 := hS.1; omega
  have hxl := c_x_1.lt
  refine va_callv (va_runS (As := [.ref x_1, .int (kz (-1))]) (rest := []) ⟨hx, hb, hml, hown, hts⟩ (k_fill l dC dI ca x_1 H.size (fun _ => 0) (-1)) (va_cwS 2 hts gX10_init_J7_fill_53178 rfl rfl rfl (by decide +kernel) ⟨Nat.le_of_ble_eq_true rfl, Nat.le_of_ble_eq_true rfl⟩) ⟨fun a U g mk q => by obtain ⟨q0, q1, ⟨qK, qN⟩, qI⟩ := q; exact ⟨q0, q1, ⟨va_K.moved (u := U) (U := U.calling g mk a) (Vm.Alike.refl U.vm) qK, jN_same (U := U.calling g mk a) rfl qN⟩, qI⟩, fun U hU9 hW => ⟨rfl, by rw [hU9], jK_warm hW ⟨hK, hN⟩, by rw [hU9]; exact c_x_1⟩⟩ rfl rfl hl.1 rfl (lv_room (Nat.le_of_ble_eq_true rfl)) dX10_init_22 ⟨(Nat.le_of_ble_eq_true rfl), (Nat.le_of_ble_eq_true rfl)⟩) hS (fun q h8 h9 => h9.elim (fun e9 => by rw [e9]; exact (hA _ hge_x_1)) (fun e9 => absurd e9 (by omega))) (fun q h9 => h9.elim (fun e9 => by rw [e9]; exact (hA _ hge_x_1)) (fun e9 => hA q (by omega))) (fun u9 t9 H locs ht hvm hfl hB hz1 hk1 hS => ?_)
  obtain ⟨-, c_x_1⟩ := hB
  rw [ht] at c_x_1
  clear ht hvm
  have hI := jv_keep hI (fun q hq => hk1 q (jv_lt hI hq) (fun e9 => e9.elim (fun e8 => hq (by rw [e8]; exact h0_x_1)) (fun e8 => absurd (jv_lt hI hq) (by omega))))
  have h9 := c_a0.lt
  have c_a0 := c_a0.kept (hk1 _ h9 (fun e9 => e9.elim (Ne.symm hne_x_1_a0) (fun e8 => absurd e8 (by omega))))
  clear hk1 hz1 hxl
  have hle9 := jset_le (X := X) (x := x_1) (229, 20, 36, -1, 5) 0 h0_x_1
  have hI := jv_new1 (t := (229, 20, 36, -1, 5)) (n := 0) hI h0_x_1 trivial (fun q _ => rfl) c_x_1 (jz_e20v hfl (by decide) (by decide))
  have hU := jset_U (x := x_1) (t := (229, 20, 36, -1, 5)) 0 hU h0_x_1 (fun _ => hno_229)
  have hJ := nw_set (x := x_1) (t := (229, 20, 36, -1, 5)) 0 hJ h0_x_1 (Or.inr hge_x_1) (by simp [Lt10])
  have hno_10 := jset_no (x := x_1) (t := (229, 20, 36, -1, 5)) 0 hno_10 (by decide)
  have g_x_1 := jset_self X x_1 (229, 20, 36, -1, 5) 0
  have gn_x_1 := jset_n X x_1 (229, 20, 36, -1, 5) 0
  have h0_a0 : ((jset X x_1 (229, 20, 36, -1, 5) 0).1 a0).2.1 = 0 := by rw [jset_ne X _ _ (Ne.symm hne_x_1_a0)]; exact h0_a0
  obtain ⟨X, hY9⟩ : ∃ Y9 : jG, Y9 = jset X x_1 (229, 20, 36, -1, 5) 0 := ⟨_, rfl⟩
  rw [← hY9] at hle9 hI hU hJ hno_10 g_x_1 gn_x_1 h0_a0
  clear hY9
  clear hle9
  have hleE := jset_le (X := X) (x := a0) (10, 30, 0, 0, 0) 0 h0_a0
  have hle9 := jset_le (X := X) (x := a0) (10, 30, 0, 0, 0) 0 h0_a0
  have hI := jv_new1 (t := (10, 30, 0, 0, 0)) (n := 0) hI h0_a0 trivial (fun q _ => rfl) c_a0 (jv_c10 ⟨x_1, none, rfl, le_t hleE g_x_1 (show (20 : Nat) ≠ 0 by decide), fun b9 q9 => (by cases q9)⟩)
  have hU := jset_U (x := a0) (t := (10, 30, 0, 0, 0)) 0 hU h0_a0 (fun _ => hno_10)
  have hJ := nw_set (x := a0) (t := (10, 30, 0, 0, 0)) 0 hJ h0_a0 (Or.inl rfl) (by simp [Lt10])
  have g_a0 := jset_self X a0 (10, 30, 0, 0, 0) 0
  have gn_a0 := jset_n X a0 (10, 30, 0, 0, 0) 0
  obtain ⟨X, hY9⟩ : ∃ Y9 : jG, Y9 = jset X a0 (10, 30, 0, 0, 0) 0 := ⟨_, rfl⟩
  rw [← hY9] at hle9 hI hU hJ g_a0 gn_a0
  clear hY9
  clear hle9
  exact W.vret hx hb hr (fun t9 ht hW => ⟨⟨X, rfl, ⟨hJ, g_a0, hU⟩, jK_warm hW ⟨hK, hN⟩, by rw [ht]; exact hI⟩, hS.F ht⟩) hS.2.2 dX10_init_25
def Lq0 : List kTy := [(4, 30, 0, 0, 0), (226, 26, 8, 0, 0), (226, 26, 8, 1, 0), (228, 20, 8, -2147483648, 2147483647)]
def Lq : List kTy := Ll ++ (Lq0 ++ (Lp 0 ++ Lp 1 ++ Lp 2 ++ Lp 3 ++ Lp 4 ++ Lp 5 ++ Lp 6 ++ Lp 7 ++ Lp 8 ++ Lp 9 ++ Lp 10 ++ Lp 11 ++ Lp 12 ++ Lp 13 ++ Lp 14 ++ Lp 15))
set_option maxHeartbeats 4000000 in
set_option maxRecDepth 100000 in
/-- X4_init -/
theorem k_Parter (l : Launch) (dC : Nat → ClassId) (dI : Nat → Nat → Nat) (ca : Nat → ClassId) (X : jG) (hU : jU X) (a0 n0 : Nat) (tg : Nat) (h0_a0 : (X.1 a0).2.1 = 0) (g_tg : X.1 tg = (9, 30, 0, 0, 0)) (hno_4 : ∀ q : Nat, X.1 q ≠ (4, 30, 0, 0, 0)) (hno_226 : ∀ q : Nat, X.1 q ≠ (226, 26, 8, 0, 0)) (hno_227 : ∀ q : Nat, X.1 q ≠ (226, 26, 8, 1, 0)) (hno_228 : ∀ q : Nat, X.1 q ≠ (228, 20, 8, -2147483648, 2147483647)) (hno_3 : ∀ q : Nat, X.1 q ≠ (3, 30, 0, 0, 0)) (hno_219 : ∀ q : Nat, X.1 q ≠ (219, 27, 40, 232, 160)) (hno_204 : ∀ q : Nat, X.1 q ≠ (204, 21, 40, 0, 0)) (hno_220 : ∀ q : Nat, X.1 q ≠ (220, 23, 160, 0, 0)) (hno_221 : ∀ q : Nat, X.1 q ≠ (221, 28, 40, 233, 40)) (hno_222 : ∀ q : Nat, X.1 q ≠ (222, 27, 40, 234, 40)) (hno_223 : ∀ q : Nat, X.1 q ≠ (223, 28, 40, 235, 144)) (hno_224 : ∀ q : Nat, X.1 q ≠ (224, 27, 40, 236, 144)) (hno_225 : ∀ q : Nat, X.1 q ≠ (225, 22, 36, 0, 0)) (hfid : fidL X [0, 1, 2, 3, 4, 5, 6, 7, 8, 9, 10, 11, 12, 13, 14, 15]) : Met l yX4_init wsX4_init ({ frames := 3, cells := 276, slots := 23015, locals := 52 }) (va_Pc [.ref a0, .ref tg] (fun U => U.heap.size = n0 ∧ jK (dC, dI) ca U ∧ jv (dC, dI) ca (fun _ => True) X U.heap ∧ va_at (dC, dI) vwCl (a0, .inr (4, [.long 0, .long 0, .int (kz 0), .null, .int (kz 0), .null, .null, .int (kz 0), .null, .null])) U.heap)) (va_Qv (fun (u : jG) => jnw X u a0 n0 (4, 30, 0, 0, 0) Lq) (fun u U => jK (dC, dI) ca U ∧ jv (dC, dI) ca (fun _ => True) u U.heap) (jA a0 n0)) 276 23015 (jA a0 n0) := by
  refine Met.ofW (cc := cX4_init) (maxL := 3) (ret := none) (by decide) rfl ?_
  intro p e s m args below meth c s₁ B hml hv
  obtain ⟨rfl, hsz, ⟨hK, hN⟩, hI, c_a0⟩ := hv
  have hx := B.exec
  have hb := B.bytes
  have hr := B.returns
  have hts := atoms_spec (ws := wsX4_init) B.pre
  have hown : s.vm.findClass RX4 = some m.cls := findClass_of_methodNamed B.named
  have hin : meth.name = "<init>" := (name_of_methodNamed B.named B.method).1
  have hL11 := hts (.fieldLink RX4 11 "JoinBench$Parter" "countedUncut" "J") (by decide +kernel)
  have hL15 := hts (.fieldLink RX4 15 "JoinBench$Parter" "counted" "J") (by decide +kernel)
  have hL18 := hts (.fieldLink RX4 18 "JoinBench$Parter" "left" "Z") (by decide +kernel)
  have hL24 := hts (.fieldLink RX4 24 "JoinBench$Parter" "told" "[LJoinBench$Path;") (by decide +kernel)
  have hL28 := hts (.fieldLink RX4 28 "JoinBench$Parter" "toldCount" "I") (by decide +kernel)
  have hL32 := hts (.fieldLink RX4 32 "JoinBench$Parter" "grown" "[LJoinBench$Path;") (by decide +kernel)
  have hL35 := hts (.fieldLink RX4 35 "JoinBench$Parter" "keys" "[I") (by decide +kernel)
  have hL39 := hts (.fieldLink RX4 39 "JoinBench$Parter" "keyCount" "I") (by decide +kernel)
  have hL42 := hts (.fieldLink RX4 42 "JoinBench$Parter" "tongue" "LJoinBench$Tongue;") (by decide +kernel)
  have hL51 := hts (.fieldLink RX4 51 "JoinBench$Parter" "lattice" "LJoinBench$Lattice;") (by decide +kernel)
  have hinX4 : ∀ w ∈ u_ws RX4 TX4 10, w ∈ wsX4_init := by decide +kernel
  have hJ := nw_rf X a0 n0 Lq
  generalize hAe : jA a0 n0 = A
  have hA : ∀ q : Nat, n0 ≤ q → A q := fun q h => by rw [← hAe]; exact Or.inr h
  have hA0 : A a0 := by rw [← hAe]; exact Or.inl rfl
  obtain ⟨H, hH⟩ : ∃ H : Heap, H = s.heap := ⟨_, rfl⟩
  have hS : va_S A s.heap H [] := by rw [hH]; exact va_S.rf
  have hzH : n0 ≤ H.size := by have h8 := hS.1; omega
  rw [← hH] at hI c_a0 ⊢
  clear hH
  have hl := lv_entry ([.ref a0, .ref tg]) (n := 3) (Nat.le_of_ble_eq_true rfl)
  rw [lg_entry_eq]
  generalize (lg_sl ([.ref a0, .ref tg]) ++ List.replicate (3 - (lg_sl ([.ref a0, .ref tg])).length) Slot.unset).toArray = ls at hl ⊢
  have hl : lv_has ls 3 [(0, .ref a0), (1, .ref tg)] := hl
  refine lv_aload_n hx hb dX4_init_0 rfl (lv_at hl 0 rfl) ?_
  refine W.objInit hx hb hown (hts (.methodLink RX4 5 objectInit) (by decide +kernel)) (hts (.instanceMethod objectInit) (by decide +kernel)) (hts _ (List.mem_of_getElem? (i := 3) rfl)) rfl (by rw [hml]; exact hl.1) rfl dX4_init_1 (Nat.le_of_ble_eq_true rfl) (Nat.le_of_ble_eq_true rfl) ?_
  refine W.eq (g2 := F0 m 4 ls []) rfl ?_
  refine lv_aload_n hx hb dX4_init_4 rfl (lv_at hl 0 rfl) ?_
  refine lv_lconst (v := 0) hx hb dX4_init_5 (by decide) ?_
  refine iz_put (D := (dC, dI)) (ci := 4) (v := .long 0) (ty := .long) (C := RX4) (T := TX4) (N := 10) hx hb hts hinX4 tyX4 tyX4_ok nmX4 hown hK c_a0 hS hA0 rfl 0 (by decide) hL11 (fun _ h9 => h9) rfl (by decide +kernel) rfl rfl (Nat.le_of_ble_eq_true rfl) dX4_init_6 (fun H locs c9 oq hS => ?_)
  have hI := jv_skip hI h0_a0 oq
  have c_a0 := c9
  clear oq c9
  refine lv_aload_n hx hb dX4_init_9 rfl (lv_at hl 0 rfl) ?_
  refine lv_lconst (v := 0) hx hb dX4_init_10 (by decide) ?_
  refine iz_put (D := (dC, dI)) (ci := 4) (v := .long 0) (ty := .long) (C := RX4) (T := TX4) (N := 10) hx hb hts hinX4 tyX4 tyX4_ok nmX4 hown hK c_a0 hS hA0 rfl 1 (by decide) hL15 (fun _ h9 => h9) rfl (by decide +kernel) rfl rfl (Nat.le_of_ble_eq_true rfl) dX4_init_11 (fun H locs c9 oq hS => ?_)
  have hI := jv_skip hI h0_a0 oq
  have c_a0 := c9
  clear oq c9
  refine lv_aload_n hx hb dX4_init_14 rfl (lv_at hl 0 rfl) ?_
  refine lv_iconst (v := kz 0) hx hb dX4_init_15 rfl ?_
  refine iz_put (D := (dC, dI)) (ci := 4) (v := .int (kz 0)) (ty := .boolean) (C := RX4) (T := TX4) (N := 10) hx hb hts hinX4 tyX4 tyX4_ok nmX4 hown hK c_a0 hS hA0 rfl 2 (by decide) hL18 (fun _ h9 => h9) rfl (by decide +kernel) (by decide) rfl (Nat.le_of_ble_eq_true rfl) dX4_init_16 (fun H locs c9 oq hS => ?_)
  have hI := jv_skip hI h0_a0 oq
  have c_a0 := c9
  clear oq c9
  refine lv_aload_n hx hb dX4_init_19 rfl (lv_at hl 0 rfl) ?_
  refine lv_bipush (v := kz 8) hx hb dX4_init_20 (by decide) ?_
  have hzH : n0 ≤ H.size := by have h8 := hS.1; omega
  refine jz_newq (own := RX4) (C := RX5) (kd := 26) (N := 8) hx hb hown (hts (.classLink RX4 22 RX5) (by decide +kernel)) (jN_AO hN).2.2.1 hK 6 rfl hS (by decide) (by decide) (Nat.le_of_ble_eq_true rfl) (Nat.le_of_ble_eq_true rfl) dX4_init_22 (fun x_1 H hx9 c_x_1 oq hz9 hS => ?_)
  have h0_x_1 : (X.1 x_1).2.1 = 0 := jv_out hI (by omega)
  have hge_x_1 : n0 ≤ x_1 := by omega
  have hne_x_1_a0 : x_1 ≠ a0 := by have h9 := c_a0.lt; omega
  have c_a0 := c_a0.kept (oq _ c_a0.lt)
  have hI := jv_keep hI (fun q hq => oq q (jv_lt hI hq))
  clear oq hz9 hx9
  refine iz_put (D := (dC, dI)) (ci := 4) (v := .ref x_1) (ty := .array (.object "JoinBench$Path")) (C := RX4) (T := TX4) (N := 10) hx hb hts hinX4 tyX4 tyX4_ok nmX4 hown hK c_a0 hS hA0 rfl 3 (by decide) hL24 (fun _ h9 => h9) rfl (by decide +kernel) rfl rfl (Nat.le_of_ble_eq_true rfl) dX4_init_25 (fun H locs c9 oq hS => ?_)
  have hI := jv_skip hI h0_a0 oq
  have c_x_1 := c_x_1.kept (oq _ hne_x_1_a0)
  have c_a0 := c9
  clear oq c9
  refine lv_aload_n hx hb dX4_init_28 rfl (lv_at hl 0 rfl) ?_
  refine lv_iconst (v := kz 0) hx hb dX4_init_29 rfl ?_
  refine iz_put (D := (dC, dI)) (ci := 4) (v := .int (kz 0)) (ty := .int) (C := RX4) (T := TX4) (N := 10) hx hb hts hinX4 tyX4 tyX4_ok nmX4 hown hK c_a0 hS hA0 rfl 4 (by decide) hL28 (fun _ h9 => h9) rfl (by decide +kernel) rfl rfl (Nat.le_of_ble_eq_true rfl) dX4_init_30 (fun H locs c9 oq hS => ?_)
  have hI := jv_skip hI h0_a0 oq
  have c_x_1 := c_x_1.kept (oq _ hne_x_1_a0)
  have c_a0 := c9
  clear oq c9
  refine lv_aload_n hx hb dX4_init_33 rfl (lv_at hl 0 rfl) ?_
  refine lv_bipush (v := kz 8) hx hb dX4_init_34 (by decide) ?_
  have hzH : n0 ≤ H.size := by have h8 := hS.1; omega
  refine jz_newq (own := RX4) (C := RX5) (kd := 26) (N := 8) hx hb hown (hts (.classLink RX4 22 RX5) (by decide +kernel)) (jN_AO hN).2.2.1 hK 6 rfl hS (by decide) (by decide) (Nat.le_of_ble_eq_true rfl) (Nat.le_of_ble_eq_true rfl) dX4_init_36 (fun x_2 H hx9 c_x_2 oq hz9 hS => ?_)
  have h0_x_2 : (X.1 x_2).2.1 = 0 := jv_out hI (by omega)
  have hge_x_2 : n0 ≤ x_2 := by omega
  have hne_x_2_a0 : x_2 ≠ a0 := by have h9 := c_a0.lt; omega
  have hne_x_2_x_1 : x_2 ≠ x_1 := by have h9 := c_x_1.lt; omega
  have c_a0 := c_a0.kept (oq _ c_a0.lt)
  have c_x_1 := c_x_1.kept (oq _ c_x_1.lt)
  have hI := jv_keep hI (fun q hq => oq q (jv_lt hI hq))
  clear oq hz9 hx9
  refine iz_put (D := (dC, dI)) (ci := 4) (v := .ref x_2) (ty := .array (.object "JoinBench$Path")) (C := RX4) (T := TX4) (N := 10) hx hb hts hinX4 tyX4 tyX4_ok nmX4 hown hK c_a0 hS hA0 rfl 5 (by decide) hL32 (fun _ h9 => h9) rfl (by decide +kernel) rfl rfl (Nat.le_of_ble_eq_true rfl) dX4_init_39 (fun H locs c9 oq hS => ?_)
  have hI := jv_skip hI h0_a0 oq
  have c_x_1 := c_x_1.kept (oq _ hne_x_1_a0)
  have c_x_2 := c_x_2.kept (oq _ hne_x_2_a0)
  have c_a0 := c9
  clear oq c9
  refine lv_aload_n hx hb dX4_init_42 rfl (lv_at hl 0 rfl) ?_
  refine lv_bipush (v := kz 8) hx hb dX4_init_43 (by decide) ?_
  have hzH : n0 ≤ H.size := by have h8 := hS.1; omega
  refine jz_newa (atype := .int) (ty := .int) (N := 8) hx hb (hts (.arrayClass .int) (by decide +kernel)) rfl hK 0 rfl hS (a0 := (8, .inl (fun _ => 0))) rfl (by decide) (by decide) (Nat.le_of_ble_eq_true rfl) (Nat.le_of_ble_eq_true rfl) dX4_init_45 (fun x_3 H hx9 c_x_3 oq hz9 hS => ?_)
  have h0_x_3 : (X.1 x_3).2.1 = 0 := jv_out hI (by omega)
  have hge_x_3 : n0 ≤ x_3 := by omega
  have hne_x_3_a0 : x_3 ≠ a0 := by have h9 := c_a0.lt; omega
  have hne_x_3_x_1 : x_3 ≠ x_1 := by have h9 := c_x_1.lt; omega
  have hne_x_3_x_2 : x_3 ≠ x_2 := by have h9 := c_x_2.lt; omega
  have c_a0 := c_a0.kept (oq _ c_a0.lt)
  have c_x_1 := c_x_1.kept (oq _ c_x_1.lt)
  have c_x_2 := c_x_2.kept (oq _ c_x_2.lt)
  have hI := jv_keep hI (fun q hq => oq q (jv_lt hI hq))
  clear oq hz9 hx9
  have hle9 := jset_le (X := X) (x := x_3) (228, 20, 8, -2147483648, 2147483647) 0 h0_x_3
  have hI := jv_new1 (t := (228, 20, 8, -2147483648, 2147483647)) (n := 0) hI h0_x_3 trivial (fun q _ => rfl) c_x_3 (jz_e20 (by decide))
  have hU := jset_U (x := x_3) (t := (228, 20, 8, -2147483648, 2147483647)) 0 hU h0_x_3 (fun _ => hno_228)
  have hJ := nw_set (x := x_3) (t := (228, 20, 8, -2147483648, 2147483647)) 0 hJ h0_x_3 (Or.inr hge_x_3) (by decide +kernel)
  have hno_4 := jset_no (x := x_3) (t := (228, 20, 8, -2147483648, 2147483647)) 0 hno_4 (by decide)
  have hno_226 := jset_no (x := x_3) (t := (228, 20, 8, -2147483648, 2147483647)) 0 hno_226 (by decide)
  have hno_227 := jset_no (x := x_3) (t := (228, 20, 8, -2147483648, 2147483647)) 0 hno_227 (by decide)
  have hno_3 := jset_no (x := x_3) (t := (228, 20, 8, -2147483648, 2147483647)) 0 hno_3 (by decide)
  have hno_219 := jset_no (x := x_3) (t := (228, 20, 8, -2147483648, 2147483647)) 0 hno_219 (by decide)
  have hno_204 := jset_no (x := x_3) (t := (228, 20, 8, -2147483648, 2147483647)) 0 hno_204 (by decide)
  have hno_220 := jset_no (x := x_3) (t := (228, 20, 8, -2147483648, 2147483647)) 0 hno_220 (by decide)
  have hno_221 := jset_no (x := x_3) (t := (228, 20, 8, -2147483648, 2147483647)) 0 hno_221 (by decide)
  have hno_222 := jset_no (x := x_3) (t := (228, 20, 8, -2147483648, 2147483647)) 0 hno_222 (by decide)
  have hno_223 := jset_no (x := x_3) (t := (228, 20, 8, -2147483648, 2147483647)) 0 hno_223 (by decide)
  have hno_224 := jset_no (x := x_3) (t := (228, 20, 8, -2147483648, 2147483647)) 0 hno_224 (by decide)
  have hno_225 := jset_no (x := x_3) (t := (228, 20, 8, -2147483648, 2147483647)) 0 hno_225 (by decide)
  have hfid := fidL_set (x := x_3) (t := (228, 20, 8, -2147483648, 2147483647)) 0 hfid (by decide)
  have g_x_3 := jset_self X x_3 (228, 20, 8, -2147483648, 2147483647) 0
  have gn_x_3 := jset_n X x_3 (228, 20, 8, -2147483648, 2147483647) 0
  have h0_a0 : ((jset X x_3 (228, 20, 8, -2147483648, 2147483647) 0).1 a0).2.1 = 0 := by rw [jset_ne X _ _ (Ne.symm hne_x_3_a0)]; exact h0_a0
  have h0_x_1 : ((jset X x_3 (228, 20, 8, -2147483648, 2147483647) 0).1 x_1).2.1 = 0 := by rw [jset_ne X _ _ (Ne.symm hne_x_3_x_1)]; exact h0_x_1
  have h0_x_2 : ((jset X x_3 (228, 20, 8, -2147483648, 2147483647) 0).1 x_2).2.1 = 0 := by rw [jset_ne X _ _ (Ne.symm hne_x_3_x_2)]; exact h0_x_2
  obtain ⟨X, hY9⟩ : ∃ Y9 : jG, Y9 = jset X x_3 (228, 20, 8, -2147483648, 2147483647) 0 := ⟨_, rfl⟩
  rw [← hY9] at hle9 hI hU hJ hno_4 hno_226 hno_227 hno_3 hno_219 hno_204 hno_220 hno_221 hno_222 hno_223 hno_224 hno_225 hfid g_x_3 gn_x_3 h0_a0 h0_x_1 h0_x_2
  clear hY9
  have g_tg := le_t hle9 g_tg (show (30 : Nat) ≠ 0 by decide)
  clear hle9
  refine iz_putF (D := (dC, dI)) (ci := 4) (v := .ref x_3) (ty := .array .int) (C := RX4) (T := TX4) (N := 10) hx hb hts hinX4 tyX4 tyX4_ok nmX4 hown hK c_a0 hS hA0 rfl 6 (by decide) hL35 (fun _ h9 => h9) rfl hin rfl (by decide +kernel) rfl rfl (Nat.le_of_ble_eq_true rfl) dX4_init_47 (fun H locs c9 oq hS hz9 => ?_)
  clear hz9
  have hI := jv_skip hI h0_a0 oq
  have c_x_1 := c_x_1.kept (oq _ hne_x_1_a0)
  have c_x_2 := c_x_2.kept (oq _ hne_x_2_a0)
  have c_a0 := c9
  clear oq c9
  refine lv_aload_n hx hb dX4_init_50 rfl (lv_at hl 0 rfl) ?_
  refine lv_iconst (v := kz 0) hx hb dX4_init_51 rfl ?_
  refine iz_put (D := (dC, dI)) (ci := 4) (v := .int (kz 0)) (ty := .int) (C := RX4) (T := TX4) (N := 10) hx hb hts hinX4 tyX4 tyX4_ok nmX4 hown hK c_a0 hS hA0 rfl 7 (by decide) hL39 (fun _ h9 => h9) rfl (by decide +kernel) rfl rfl (Nat.le_of_ble_eq_true rfl) dX4_init_52 (fun H locs c9 oq hS => ?_)
  have hI := jv_skip hI h0_a0 oq
  have c_x_1 := c_x_1.kept (oq _ hne_x_1_a0)
  have c_x_2 := c_x_2.kept (oq _ hne_x_2_a0)
  have c_a0 := c9
  clear oq c9
  refine lv_aload_n hx hb dX4_init_55 rfl (lv_at hl 0 rfl) ?_
  refine lv_aload_n hx hb dX4_init_56 rfl (lv_at hl 1 rfl) ?_
  refine iz_putF (D := (dC, dI)) (ci := 4) (v := .ref tg) (ty := .object "JoinBench$Tongue") (C := RX4) (T := TX4) (N := 10) hx hb hts hinX4 tyX4 tyX4_ok nmX4 hown hK c_a0 hS hA0 rfl 8 (by decide) hL42 (fun _ h9 => h9) rfl hin rfl (by decide +kernel) rfl rfl (Nat.le_of_ble_eq_true rfl) dX4_init_57 (fun H locs c9 oq hS hz9 => ?_)
  clear hz9
  have hI := jv_skip hI h0_a0 oq
  have c_x_1 := c_x_1.kept (oq _ hne_x_1_a0)
  have c_x_2 := c_x_2.kept (oq _ hne_x_2_a0)
  have c_a0 := c9
  clear oq c9
  refine lv_aload_n hx hb dX4_init_60 rfl (lv_at hl 0 rfl) ?_
  have hzH : n0 ≤ H.size := by have h8 := hS.1; omega
  refine jz_new (ci := 3) (fs := [.null, .int (kz 0), .null, .null, .null, .null, .null, .null, .null, .int (kz 0), .null]) (C := RX3) (T := TX3) (N := 11) hx hb hts (by decide +kernel) tyX3 tyX3_ok hown (hts (.classLink RX4 46 RX3) (by decide +kernel)) (hts (.instantiable RX3 11) (by decide +kernel)) (hts (.initialized RX3) (by decide +kernel)) hK hS rfl (fun j hj => by rcases (show j = 0 ∨ j = 1 ∨ j = 2 ∨ j = 3 ∨ j = 4 ∨ j = 5 ∨ j = 6 ∨ j = 7 ∨ j = 8 ∨ j = 9 ∨ j = 10 by omega) with rfl | rfl | rfl | rfl | rfl | rfl | rfl | rfl | rfl | rfl | rfl <;> rfl) (Nat.le_of_ble_eq_true rfl) (Nat.le_of_ble_eq_true rfl) dX4_init_61 (fun x_4 H hx9 c_x_4 oq hz9 hS => ?_)
  have h0_x_4 : (X.1 x_4).2.1 = 0 := jv_out hI (by omega)
  have hge_x_4 : n0 ≤ x_4 := by omega
  have hne_x_4_a0 : x_4 ≠ a0 := by have h9 := c_a0.lt; omega
  have hne_x_4_x_1 : x_4 ≠ x_1 := by have h9 := c_x_1.lt; omega
  have hne_x_4_x_2 : x_4 ≠ x_2 := by have h9 := c_x_2.lt; omega
  have c_a0 := c_a0.kept (oq _ c_a0.lt)
  have c_x_1 := c_x_1.kept (oq _ c_x_1.lt)
  have c_x_2 := c_x_2.kept (oq _ c_x_2.lt)
  have hI := jv_keep hI (fun q hq => oq q (jv_lt hI hq))
  clear oq hz9 hx9
  refine lv_dup hx hb dX4_init_64 rfl ?_
  refine lv_aload_n hx hb dX4_init_65 rfl (lv_at hl 1 rfl) ?_
  have hzH : n0 ≤ H.size := by have h8 := hS.1; omega
  have hxl := c_x_4.lt
  refine va_callv (va_runI (As := [.ref tg]) (rest := [.ref x_4, .ref a0]) ⟨hx, hb, hml, hown, hts⟩ (k_Lattice l dC dI ca X hU x_4 H.size tg h0_x_4 g_tg hno_3 hno_219 hno_204 hno_220 hno_221 hno_222 hno_223 hno_224 hno_225) (cwI 1 hts gX4_init_X3_init rfl rfl rfl (hts (.initialized RX3) (by decide +kernel)) (hts (.methodLink RX4 48 yX3_init) (by decide +kernel)) (hts (.instanceMethod yX3_init) (by decide +kernel)) rfl (by decide +kernel) ⟨Nat.le_of_ble_eq_true rfl, Nat.le_of_ble_eq_true rfl⟩) ⟨fun a U g mk q => by obtain ⟨q0, q1, ⟨qK, qN⟩, qI⟩ := q; exact ⟨q0, q1, ⟨va_K.moved (u := U) (U := U.calling g mk a) (Vm.Alike.refl U.vm) qK, jN_same (U := U.calling g mk a) rfl qN⟩, qI⟩, fun U hU9 hW => ⟨rfl, by rw [hU9], jK_warm hW ⟨hK, hN⟩, by rw [hU9]; exact ⟨jv_A2 hI (fun _ _ => trivial), c_x_4⟩⟩⟩ rfl rfl hl.1 rfl (lv_room (Nat.le_of_ble_eq_true rfl)) dX4_init_66 ⟨(Nat.le_of_ble_eq_true rfl), (Nat.le_of_ble_eq_true rfl)⟩) hS (fun q h8 h9 => h9.elim (fun e9 => by rw [e9]; exact (hA _ hge_x_4)) (fun e9 => absurd e9 (by omega))) (fun q h9 => h9.elim (fun e9 => by rw [e9]; exact (hA _ hge_x_4)) (fun e9 => hA q (by omega))) (fun X t9 H locs ht hvm hw_5 hB hz1 hk1 hS => ?_)
  obtain ⟨hw_5, hw_5g, hU⟩ := hw_5
  obtain ⟨-, hI⟩ := hB
  rw [ht] at hI
  clear ht hvm
  have hle9 := nw_le hw_5
  have h9 := c_a0.lt
  have c_a0 := c_a0.kept (hk1 _ h9 (fun e9 => e9.elim (Ne.symm hne_x_4_a0) (fun e8 => absurd e8 (by omega))))
  have h8_a0 := nw_0 hw_5 h0_a0 (Ne.symm hne_x_4_a0) h9
  have h9 := c_x_1.lt
  have c_x_1 := c_x_1.kept (hk1 _ h9 (fun e9 => e9.elim (Ne.symm hne_x_4_x_1) (fun e8 => absurd e8 (by omega))))
  have h8_x_1 := nw_0 hw_5 h0_x_1 (Ne.symm hne_x_4_x_1) h9
  have h9 := c_x_2.lt
  have c_x_2 := c_x_2.kept (hk1 _ h9 (fun e9 => e9.elim (Ne.symm hne_x_4_x_2) (fun e8 => absurd e8 (by omega))))
  have h8_x_2 := nw_0 hw_5 h0_x_2 (Ne.symm hne_x_4_x_2) h9
  have h0_a0 := h8_a0
  have h0_x_1 := h8_x_1
  have h0_x_2 := h8_x_2
  have hno_4 := nw_no hw_5 hno_4 (by decide +kernel)
  have hno_226 := nw_no hw_5 hno_226 (by decide +kernel)
  have hno_227 := nw_no hw_5 hno_227 (by decide +kernel)
  have hJ := nw_tr hJ hw_5 (Or.inr hge_x_4) hzH (fun c hc => List.mem_append_left _ hc)
  have hfid : fidL X [0, 1, 2, 3, 4, 5, 6, 7, 8, 9, 10, 11, 12, 13, 14, 15] := fidL_nw hw_5 hfid (by decide) (by decide +kernel)
  have g_tg := le_t hle9 g_tg (show (30 : Nat) ≠ 0 by decide)
  have g_x_3 := le_t hle9 g_x_3 (show (20 : Nat) ≠ 0 by decide)
  clear hle9 hxl hk1 hz1
  have g_x_4 := hw_5g
  refine iz_putF (D := (dC, dI)) (ci := 4) (v := .ref x_4) (ty := .object "JoinBench$Lattice") (C := RX4) (T := TX4) (N := 10) hx hb hts hinX4 tyX4 tyX4_ok nmX4 hown hK c_a0 hS hA0 rfl 9 (by decide) hL51 (fun _ h9 => h9) rfl hin rfl (by decide +kernel) rfl rfl (Nat.le_of_ble_eq_true rfl) dX4_init_69 (fun H locs c9 oq hS hz9 => ?_)
  clear hz9
  have hI := jv_skip hI h0_a0 oq
  have c_x_1 := c_x_1.kept (oq _ hne_x_1_a0)
  have c_x_2 := c_x_2.kept (oq _ hne_x_2_a0)
  have c_a0 := c9
  clear oq c9
  refine lv_iconst (v := kz 0) hx hb dX4_init_72 rfl ?_
  refine lv_istore_n (lv' := [(2, .int (kz 0)), (0, .ref a0), (1, .ref tg)]) hx hb dX4_init_73 rfl hl (by decide) rfl (fun ls hl => ?_)
  refine lv_iload_n hx hb dX4_init_74 rfl (lv_at hl 0 rfl) ?_
  refine lv_bipush (v := kz 8) hx hb dX4_init_75 (by decide) ?_
  refine iz_ge (tgt := 112) hx hb dX4_init_77 (by decide) (by unfold rg2; omega) (fun q9 => absurd q9 (by decide)) (fun _ => ?_)
  refine lv_aload_n hx hb dX4_init_80 rfl (lv_at hl 1 rfl) ?_
  refine iz_get (D := (dC, dI)) (ci := 4) (v := .ref x_1) (C := RX4) (T := TX4) (N := 10) hx hb hts hinX4 hown hK c_a0 rfl 3 (by decide) hL24 (fun _ h9 => h9) rfl dX4_init_81 ?_
  refine lv_iload_n hx hb dX4_init_84 rfl (lv_at hl 0 rfl) ?_
  have hzH : n0 ≤ H.size := by have h8 := hS.1; omega
  refine jz_new (ci := 5) (fs := [.null, .int (kz 0), .int (kz 0), .int (kz 0), .int (kz 0), .int (kz 0)]) (C := RX5) (T := TX5) (N := 6) hx hb hts (by decide +kernel) tyX5 tyX5_ok hown (hts (.classLink RX4 22 RX5) (by decide +kernel)) (hts (.instantiable RX5 6) (by decide +kernel)) (hts (.initialized RX5) (by decide +kernel)) hK hS rfl (fun j hj => by rcases (show j = 0 ∨ j = 1 ∨ j = 2 ∨ j = 3 ∨ j = 4 ∨ j = 5 by omega) with rfl | rfl | rfl | rfl | rfl | rfl <;> rfl) (Nat.le_of_ble_eq_true rfl) (Nat.le_of_ble_eq_true rfl) dX4_init_85 (fun x_6 H hx9 c_x_6 oq hz9 hS => ?_)
  have h0_x_6 : (X.1 x_6).2.1 = 0 := jv_out hI (by omega)
  have hge_x_6 : n0 ≤ x_6 := by omega
  have hne_x_6_a0 : x_6 ≠ a0 := by have h9 := c_a0.lt; omega
  have hne_x_6_x_1 : x_6 ≠ x_1 := by have h9 := c_x_1.lt; omega
  have hne_x_6_x_2 : x_6 ≠ x_2 := by have h9 := c_x_2.lt; omega
  have c_a0 := c_a0.kept (oq _ c_a0.lt)
  have c_x_1 := c_x_1.kept (oq _ c_x_1.lt)
  have c_x_2 := c_x_2.kept (oq _ c_x_2.lt)
  have hI := jv_keep hI (fun q hq => oq q (jv_lt hI hq))
  clear oq hz9 hx9
  refine lv_dup hx hb dX4_init_88 rfl ?_
  have hzH : n0 ≤ H.size := by have h8 := hS.1; omega
  have hxl := c_x_6.lt
  refine va_callv (va_runIN (As := []) (rest := [.ref x_6, .int (kz 0), .ref x_1]) ⟨hx, hb, hml, hown, hts⟩ (k_Path l dC dI ca X hU x_6 H.size (0 : Nat) h0_x_6 (fidL_no hfid (by decide) (by decide)) (fidL_no hfid (by decide) (by decide)) (fidL_no hfid (by decide) (by decide)) (fidL_no hfid (by decide) (by decide))) ⟨va_cnB 0 hts gX4_init_X5_init_n55 rfl rfl rfl (jN_X4_55 hN) (hts (.initialized RX5) (by decide +kernel)) (by decide +kernel) ⟨Nat.le_of_ble_eq_true rfl, Nat.le_of_ble_eq_true rfl⟩, rfl, (hts (.instanceMethod yX5_init) (by decide +kernel))⟩ ⟨fun a U g mk q => by obtain ⟨q0, q1, ⟨qK, qN⟩, qI⟩ := q; exact ⟨q0, q1, ⟨va_K.moved (u := U) (U := U.calling g mk a) (Vm.Alike.refl U.vm) qK, jN_same (U := U.calling g mk a) rfl qN⟩, qI⟩, fun U hU9 hW => ⟨rfl, by rw [hU9], jK_warm hW ⟨hK, hN⟩, by rw [hU9]; exact ⟨jv_A2 hI (fun _ _ => trivial), c_x_6⟩⟩⟩ rfl rfl hl.1 rfl (lv_room (Nat.le_of_ble_eq_true rfl)) dX4_init_89 ⟨(Nat.le_of_ble_eq_true rfl), (Nat.le_of_ble_eq_true rfl)⟩) hS (fun q h8 h9 => h9.elim (fun e9 => by rw [e9]; exact (hA _ hge_x_6)) (fun e9 => absurd e9 (by omega))) (fun q h9 => h9.elim (fun e9 => by rw [e9]; exact (hA _ hge_x_6)) (fun e9 => hA q (by omega))) (fun X t9 H locs ht hvm hw_7 hB hz1 hk1 hS => ?_)
  obtain ⟨hw_7, hw_7g, hU⟩ := hw_7
  obtain ⟨-, hI⟩ := hB
  rw [ht] at hI
  clear ht hvm
  have hle9 := nw_le hw_7
  have h9 := c_a0.lt
  have c_a0 := c_a0.kept (hk1 _ h9 (fun e9 => e9.elim (Ne.symm hne_x_6_a0) (fun e8 => absurd e8 (by omega))))
  have h8_a0 := nw_0 hw_7 h0_a0 (Ne.symm hne_x_6_a0) h9
  have h9 := c_x_1.lt
  have c_x_1 := c_x_1.kept (hk1 _ h9 (fun e9 => e9.elim (Ne.symm hne_x_6_x_1) (fun e8 => absurd e8 (by omega))))
  have h8_x_1 := nw_0 hw_7 h0_x_1 (Ne.symm hne_x_6_x_1) h9
  have h9 := c_x_2.lt
  have c_x_2 := c_x_2.kept (hk1 _ h9 (fun e9 => e9.elim (Ne.symm hne_x_6_x_2) (fun e8 => absurd e8 (by omega))))
  have h8_x_2 := nw_0 hw_7 h0_x_2 (Ne.symm hne_x_6_x_2) h9
  have h0_a0 := h8_a0
  have h0_x_1 := h8_x_1
  have h0_x_2 := h8_x_2
  have hno_4 := nw_no hw_7 hno_4 (by decide +kernel)
  have hno_226 := nw_no hw_7 hno_226 (by decide +kernel)
  have hno_227 := nw_no hw_7 hno_227 (by decide +kernel)
  have hJ := nw_tr hJ hw_7 (Or.inr hge_x_6) hzH (by decide +kernel)
  have hfid : fidL X [1, 2, 3, 4, 5, 6, 7, 8, 9, 10, 11, 12, 13, 14, 15] := fidL_nw hw_7 hfid (by decide) (fun t ht => by rw [Lp_fid _ t ht]; decide)
  have g_tg := le_t hle9 g_tg (show (30 : Nat) ≠ 0 by decide)
  have g_x_3 := le_t hle9 g_x_3 (show (20 : Nat) ≠ 0 by decide)
  have g_x_4 := le_t hle9 g_x_4 (show (30 : Nat) ≠ 0 by decide)
  clear hle9 hxl hk1 hz1
  have g_x_6 := hw_7g
  obtain ⟨fs9, co_8, jo9⟩ := jv_o5 hI g_x_6
  obtain ⟨chain_8, cost_8, spent_8, place_8, ended_8, rank_8, rfl, g_chain_8, ⟨cost_8a, cost_8b⟩, ⟨spent_8a, spent_8b⟩, ⟨place_8a, place_8b⟩, ⟨ended_8a, ended_8b⟩, ⟨rank_8a, rank_8b⟩⟩ := jo9
  refine jz_aast hx hb hK 6 5 c_x_1 co_8 rfl rfl hS (hA _ hge_x_1) (by omega) (by decide) dX4_init_92 (fun H locs c9 oq hS => ?_)
  have hI := jv_skip hI h0_x_1 oq
  have c_a0 := c_a0.kept (oq _ (Ne.symm hne_x_1_a0))
  have c_x_2 := c_x_2.kept (oq _ hne_x_2_x_1)
  have co_8 := co_8.kept (oq _ (kn_ne0 g_x_6 h0_x_1 (show (30 : Nat) ≠ 0 by decide)))
  obtain ⟨f_9, ef_9⟩ : ∃ f9 : Nat → Option Nat, f9 = va_up (fun _ => none) (Int.toNat 0) (some x_6) := ⟨_, rfl⟩
  rw [← ef_9] at c9
  have c_x_1 := c9
  clear oq c9
  refine lv_aload_n hx hb dX4_init_93 rfl (lv_at hl 1 rfl) ?_
  refine iz_get (D := (dC, dI)) (ci := 4) (v := .ref x_2) (C := RX4) (T := TX4) (N := 10) hx hb hts hinX4 hown hK c_a0 rfl 5 (by decide) hL32 (fun _ h9 => h9) rfl dX4_init_94 ?_
  refine lv_iload_n hx hb dX4_init_97 rfl (lv_at hl 0 rfl) ?_
  have hzH : n0 ≤ H.size := by have h8 := hS.1; omega
  refine jz_new (ci := 5) (fs := [.null, .int (kz 0), .int (kz 0), .int (kz 0), .int (kz 0), .int (kz 0)]) (C := RX5) (T := TX5) (N := 6) hx hb hts (by decide +kernel) tyX5 tyX5_ok hown (hts (.classLink RX4 22 RX5) (by decide +kernel)) (hts (.instantiable RX5 6) (by decide +kernel)) (hts (.initialized RX5) (by decide +kernel)) hK hS rfl (fun j hj => by rcases (show j = 0 ∨ j = 1 ∨ j = 2 ∨ j = 3 ∨ j = 4 ∨ j = 5 by omega) with rfl | rfl | rfl | rfl | rfl | rfl <;> rfl) (Nat.le_of_ble_eq_true rfl) (Nat.le_of_ble_eq_true rfl) dX4_init_98 (fun x_10 H hx9 c_x_10 oq hz9 hS => ?_)
  have h0_x_10 : (X.1 x_10).2.1 = 0 := jv_out hI (by omega)
  have hge_x_10 : n0 ≤ x_10 := by omega
  have hne_x_10_a0 : x_10 ≠ a0 := by have h9 := c_a0.lt; omega
  have hne_x_10_x_1 : x_10 ≠ x_1 := by have h9 := c_x_1.lt; omega
  have hne_x_10_x_2 : x_10 ≠ x_2 := by have h9 := c_x_2.lt; omega
  have c_a0 := c_a0.kept (oq _ c_a0.lt)
  have c_x_1 := c_x_1.kept (oq _ c_x_1.lt)
  have c_x_2 := c_x_2.kept (oq _ c_x_2.lt)
  have hI := jv_keep hI (fun q hq => oq q (jv_lt hI hq))
  clear oq hz9 hx9
  refine lv_dup hx hb dX4_init_101 rfl ?_
  have hzH : n0 ≤ H.size := by have h8 := hS.1; omega
  have hxl := c_x_10.lt
  refine va_callv (va_runIN (As := []) (rest := [.ref x_10, .int (kz 0), .ref x_2]) ⟨hx, hb, hml, hown, hts⟩ (k_Path l dC dI ca X hU x_10 H.size (8 : Nat) h0_x_10 (fidL_no hfid (by decide) (by decide)) (fidL_no hfid (by decide) (by decide)) (fidL_no hfid (by decide) (by decide)) (fidL_no hfid (by decide) (by decide))) ⟨va_cnB 0 hts gX4_init_X5_init_n55 rfl rfl rfl (jN_X4_55 hN) (hts (.initialized RX5) (by decide +kernel)) (by decide +kernel) ⟨Nat.le_of_ble_eq_true rfl, Nat.le_of_ble_eq_true rfl⟩, rfl, (hts (.instanceMethod yX5_init) (by decide +kernel))⟩ ⟨fun a U g mk q => by obtain ⟨q0, q1, ⟨qK, qN⟩, qI⟩ := q; exact ⟨q0, q1, ⟨va_K.moved (u := U) (U := U.calling g mk a) (Vm.Alike.refl U.vm) qK, jN_same (U := U.calling g mk a) rfl qN⟩, qI⟩, fun U hU9 hW => ⟨rfl, by rw [hU9], jK_warm hW ⟨hK, hN⟩, by rw [hU9]; exact ⟨jv_A2 hI (fun _ _ => trivial), c_x_10⟩⟩⟩ rfl rfl hl.1 rfl (lv_room (Nat.le_of_ble_eq_true rfl)) dX4_init_102 ⟨(Nat.le_of_ble_eq_true rfl), (Nat.le_of_ble_eq_true rfl)⟩) hS (fun q h8 h9 => h9.elim (fun e9 => by rw [e9]; exact (hA _ hge_x_10)) (fun e9 => absurd e9 (by omega))) (fun q h9 => h9.elim (fun e9 => by rw [e9]; exact (hA _ hge_x_10)) (fun e9 => hA q (by omega))) (fun X t9 H locs ht hvm hw_11 hB hz1 hk1 hS => ?_)
  obtain ⟨hw_11, hw_11g, hU⟩ := hw_11
  obtain ⟨-, hI⟩ := hB
  rw [ht] at hI
  clear ht hvm
  have hle9 := nw_le hw_11
  have h9 := c_a0.lt
  have c_a0 := c_a0.kept (hk1 _ h9 (fun e9 => e9.elim (Ne.symm hne_x_10_a0) (fun e8 => absurd e8 (by omega))))
  have h8_a0 := nw_0 hw_11 h0_a0 (Ne.symm hne_x_10_a0) h9
  have h9 := c_x_1.lt
  have c_x_1 := c_x_1.kept (hk1 _ h9 (fun e9 => e9.elim (Ne.symm hne_x_10_x_1) (fun e8 => absurd e8 (by omega))))
  have h8_x_1 := nw_0 hw_11 h0_x_1 (Ne.symm hne_x_10_x_1) h9
  have h9 := c_x_2.lt
  have c_x_2 := c_x_2.kept (hk1 _ h9 (fun e9 => e9.elim (Ne.symm hne_x_10_x_2) (fun e8 => absurd e8 (by omega))))
  have h8_x_2 := nw_0 hw_11 h0_x_2 (Ne.symm hne_x_10_x_2) h9
  have h0_a0 := h8_a0
  have h0_x_1 := h8_x_1
  have h0_x_2 := h8_x_2
  have hno_4 := nw_no hw_11 hno_4 (by decide +kernel)
  have hno_226 := nw_no hw_11 hno_226 (by decide +kernel)
  have hno_227 := nw_no hw_11 hno_227 (by decide +kernel)
  have hJ := nw_tr hJ hw_11 (Or.inr hge_x_10) hzH (by decide +kernel)
  have hfid : fidL X [1, 2, 3, 4, 5, 6, 7, 9, 10, 11, 12, 13, 14, 15] := fidL_nw hw_11 hfid (by decide) (fun t ht => by rw [Lp_fid _ t ht]; decide)
  have g_tg := le_t hle9 g_tg (show (30 : Nat) ≠ 0 by decide)
  have g_x_3 := le_t hle9 g_x_3 (show (20 : Nat) ≠ 0 by decide)
  have g_x_4 := le_t hle9 g_x_4 (show (30 : Nat) ≠ 0 by decide)
  have g_x_6 := le_t hle9 g_x_6 (show (30 : Nat) ≠ 0 by decide)
  clear hle9 hxl hk1 hz1
  have g_x_10 := hw_11g
  obtain ⟨fs9, co_12, jo9⟩ := jv_o5 hI g_x_10
  obtain ⟨chain_12, cost_12, spent_12, place_12, ended_12, rank_12, rfl, g_chain_12, ⟨cost_12a, cost_12b⟩, ⟨spent_12a, spent_12b⟩, ⟨place_12a, place_12b⟩, ⟨ended_12a, ended_12b⟩, ⟨rank_12a, rank_12b⟩⟩ := jo9
  refine jz_aast hx hb hK 6 5 c_x_2 co_12 rfl rfl hS (hA _ hge_x_2) (by omega) (by decide) dX4_init_105 (fun H locs c9 oq hS => ?_)
  have hI := jv_skip hI h0_x_2 oq
  have c_a0 := c_a0.kept (oq _ (Ne.symm hne_x_2_a0))
  have c_x_1 := c_x_1.kept (oq _ (Ne.symm hne_x_2_x_1))
  have co_12 := co_12.kept (oq _ (kn_ne0 g_x_10 h0_x_2 (show (30 : Nat) ≠ 0 by decide)))
  obtain ⟨f_13, ef_13⟩ : ∃ f9 : Nat → Option Nat, f9 = va_up (fun _ => none) (Int.toNat 0) (some x_10) := ⟨_, rfl⟩
  rw [← ef_13] at c9
  have c_x_2 := c9
  clear oq c9
  refine lv_iinc (v := kz 1) (lv' := [(2, .int (kz 1)), (0, .ref a0), (1, .ref tg)]) hx hb dX4_init_106 hl (k := 0) rfl (by decide) (by decide) rfl (fun ls hl => ?_)
  refine lv_goto (tgt := 74) hx hb dX4_init_109 (by decide) ?_
  refine lv_iload_n hx hb dX4_init_74 rfl (lv_at hl 0 rfl) ?_
  refine lv_bipush (v := kz 8) hx hb dX4_init_75 (by decide) ?_
  refine iz_ge (tgt := 112) hx hb dX4_init_77 (by decide) (by unfold rg2; omega) (fun q9 => absurd q9 (by decide)) (fun _ => ?_)
  refine lv_aload_n hx hb dX4_init_80 rfl (lv_at hl 1 rfl) ?_
  refine iz_get (D := (dC, dI)) (ci := 4) (v := .ref x_1) (C := RX4) (T := TX4) (N := 10) hx hb hts hinX4 hown hK c_a0 rfl 3 (by decide) hL24 (fun _ h9 => h9) rfl dX4_init_81 ?_
  refine lv_iload_n hx hb dX4_init_84 rfl (lv_at hl 0 rfl) ?_
  have hzH : n0 ≤ H.size := by have h8 := hS.1; omega
  refine jz_new (ci := 5) (fs := [.null, .int (kz 0), .int (kz 0), .int (kz 0), .int (kz 0), .int (kz 0)]) (C := RX5) (T := TX5) (N := 6) hx hb hts (by decide +kernel) tyX5 tyX5_ok hown (hts (.classLink RX4 22 RX5) (by decide +kernel)) (hts (.instantiable RX5 6) (by decide +kernel)) (hts (.initialized RX5) (by decide +kernel)) hK hS rfl (fun j hj => by rcases (show j = 0 ∨ j = 1 ∨ j = 2 ∨ j = 3 ∨ j = 4 ∨ j = 5 by omega) with rfl | rfl | rfl | rfl | rfl | rfl <;> rfl) (Nat.le_of_ble_eq_true rfl) (Nat.le_of_ble_eq_true rfl) dX4_init_85 (fun x_14 H hx9 c_x_14 oq hz9 hS => ?_)
  have h0_x_14 : (X.1 x_14).2.1 = 0 := jv_out hI (by omega)
  have hge_x_14 : n0 ≤ x_14 := by omega
  have hne_x_14_a0 : x_14 ≠ a0 := by have h9 := c_a0.lt; omega
  have hne_x_14_x_1 : x_14 ≠ x_1 := by have h9 := c_x_1.lt; omega
  have hne_x_14_x_2 : x_14 ≠ x_2 := by have h9 := c_x_2.lt; omega
  have c_a0 := c_a0.kept (oq _ c_a0.lt)
  have c_x_1 := c_x_1.kept (oq _ c_x_1.lt)
  have c_x_2 := c_x_2.kept (oq _ c_x_2.lt)
  have hI := jv_keep hI (fun q hq => oq q (jv_lt hI hq))
  clear oq hz9 hx9
  refine lv_dup hx hb dX4_init_88 rfl ?_
  have hzH : n0 ≤ H.size := by have h8 := hS.1; omega
  have hxl := c_x_14.lt
  refine va_callv (va_runIN (As := []) (rest := [.ref x_14, .int (kz 1), .ref x_1]) ⟨hx, hb, hml, hown, hts⟩ (k_Path l dC dI ca X hU x_14 H.size (1 : Nat) h0_x_14 (fidL_no hfid (by decide) (by decide)) (fidL_no hfid (by decide) (by decide)) (fidL_no hfid (by decide) (by decide)) (fidL_no hfid (by decide) (by decide))) ⟨va_cnB 0 hts gX4_init_X5_init_n55 rfl rfl rfl (jN_X4_55 hN) (hts (.initialized RX5) (by decide +kernel)) (by decide +kernel) ⟨Nat.le_of_ble_eq_true rfl, Nat.le_of_ble_eq_true rfl⟩, rfl, (hts (.instanceMethod yX5_init) (by decide +kernel))⟩ ⟨fun a U g mk q => by obtain ⟨q0, q1, ⟨qK, qN⟩, qI⟩ := q; exact ⟨q0, q1, ⟨va_K.moved (u := U) (U := U.calling g mk a) (Vm.Alike.refl U.vm) qK, jN_same (U := U.calling g mk a) rfl qN⟩, qI⟩, fun U hU9 hW => ⟨rfl, by rw [hU9], jK_warm hW ⟨hK, hN⟩, by rw [hU9]; exact ⟨jv_A2 hI (fun _ _ => trivial), c_x_14⟩⟩⟩ rfl rfl hl.1 rfl (lv_room (Nat.le_of_ble_eq_true rfl)) dX4_init_89 ⟨(Nat.le_of_ble_eq_true rfl), (Nat.le_of_ble_eq_true rfl)⟩) hS (fun q h8 h9 => h9.elim (fun e9 => by rw [e9]; exact (hA _ hge_x_14)) (fun e9 => absurd e9 (by omega))) (fun q h9 => h9.elim (fun e9 => by rw [e9]; exact (hA _ hge_x_14)) (fun e9 => hA q (by omega))) (fun X t9 H locs ht hvm hw_15 hB hz1 hk1 hS => ?_)
  obtain ⟨hw_15, hw_15g, hU⟩ := hw_15
  obtain ⟨-, hI⟩ := hB
  rw [ht] at hI
  clear ht hvm
  have hle9 := nw_le hw_15
  have h9 := c_a0.lt
  have c_a0 := c_a0.kept (hk1 _ h9 (fun e9 => e9.elim (Ne.symm hne_x_14_a0) (fun e8 => absurd e8 (by omega))))
  have h8_a0 := nw_0 hw_15 h0_a0 (Ne.symm hne_x_14_a0) h9
  have h9 := c_x_1.lt
  have c_x_1 := c_x_1.kept (hk1 _ h9 (fun e9 => e9.elim (Ne.symm hne_x_14_x_1) (fun e8 => absurd e8 (by omega))))
  have h8_x_1 := nw_0 hw_15 h0_x_1 (Ne.symm hne_x_14_x_1) h9
  have h9 := c_x_2.lt
  have c_x_2 := c_x_2.kept (hk1 _ h9 (fun e9 => e9.elim (Ne.symm hne_x_14_x_2) (fun e8 => absurd e8 (by omega))))
  have h8_x_2 := nw_0 hw_15 h0_x_2 (Ne.symm hne_x_14_x_2) h9
  have h0_a0 := h8_a0
  have h0_x_1 := h8_x_1
  have h0_x_2 := h8_x_2
  have hno_4 := nw_no hw_15 hno_4 (by decide +kernel)
  have hno_226 := nw_no hw_15 hno_226 (by decide +kernel)
  have hno_227 := nw_no hw_15 hno_227 (by decide +kernel)
  have hJ := nw_tr hJ hw_15 (Or.inr hge_x_14) hzH (by decide +kernel)
  have hfid : fidL X [2, 3, 4, 5, 6, 7, 9, 10, 11, 12, 13, 14, 15] := fidL_nw hw_15 hfid (by decide) (fun t ht => by rw [Lp_fid _ t ht]; decide)
  have g_tg := le_t hle9 g_tg (show (30 : Nat) ≠ 0 by decide)
  have g_x_3 := le_t hle9 g_x_3 (show (20 : Nat) ≠ 0 by decide)
  have g_x_4 := le_t hle9 g_x_4 (show (30 : Nat) ≠ 0 by decide)
  have g_x_6 := le_t hle9 g_x_6 (show (30 : Nat) ≠ 0 by decide)
  have g_x_10 := le_t hle9 g_x_10 (show (30 : Nat) ≠ 0 by decide)
  clear hle9 hxl hk1 hz1
  have g_x_14 := hw_15g
  obtain ⟨fs9, co_16, jo9⟩ := jv_o5 hI g_x_14
  obtain ⟨chain_16, cost_16, spent_16, place_16, ended_16, rank_16, rfl, g_chain_16, ⟨cost_16a, cost_16b⟩, ⟨spent_16a, spent_16b⟩, ⟨place_16a, place_16b⟩, ⟨ended_16a, ended_16b⟩, ⟨rank_16a, rank_16b⟩⟩ := jo9
  refine jz_aast hx hb hK 6 5 c_x_1 co_16 rfl rfl hS (hA _ hge_x_1) (by omega) (by decide) dX4_init_92 (fun H locs c9 oq hS => ?_)
  have hI := jv_skip hI h0_x_1 oq
  have c_a0 := c_a0.kept (oq _ (Ne.symm hne_x_1_a0))
  have c_x_2 := c_x_2.kept (oq _ hne_x_2_x_1)
  have co_16 := co_16.kept (oq _ (kn_ne0 g_x_14 h0_x_1 (show (30 : Nat) ≠ 0 by decide)))
  obtain ⟨f_17, ef_17⟩ : ∃ f9 : Nat → Option Nat, f9 = va_up f_9 (Int.toNat 1) (some x_14) := ⟨_, rfl⟩
  rw [← ef_17] at c9
  have c_x_1 := c9
  clear oq c9
  refine lv_aload_n hx hb dX4_init_93 rfl (lv_at hl 1 rfl) ?_
  refine iz_get (D := (dC, dI)) (ci := 4) (v := .ref x_2) (C := RX4) (T := TX4) (N := 10) hx hb hts hinX4 hown hK c_a0 rfl 5 (by decide) hL32 (fun _ h9 => h9) rfl dX4_init_94 ?_
  refine lv_iload_n hx hb dX4_init_97 rfl (lv_at hl 0 rfl) ?_
  have hzH : n0 ≤ H.size := by have h8 := hS.1; omega
  refine jz_new (ci := 5) (fs := [.null, .int (kz 0), .int (kz 0), .int (kz 0), .int (kz 0), .int (kz 0)]) (C := RX5) (T := TX5) (N := 6) hx hb hts (by decide +kernel) tyX5 tyX5_ok hown (hts (.classLink RX4 22 RX5) (by decide +kernel)) (hts (.instantiable RX5 6) (by decide +kernel)) (hts (.initialized RX5) (by decide +kernel)) hK hS rfl (fun j hj => by rcases (show j = 0 ∨ j = 1 ∨ j = 2 ∨ j = 3 ∨ j = 4 ∨ j = 5 by omega) with rfl | rfl | rfl | rfl | rfl | rfl <;> rfl) (Nat.le_of_ble_eq_true rfl) (Nat.le_of_ble_eq_true rfl) dX4_init_98 (fun x_18 H hx9 c_x_18 oq hz9 hS => ?_)
  have h0_x_18 : (X.1 x_18).2.1 = 0 := jv_out hI (by omega)
  have hge_x_18 : n0 ≤ x_18 := by omega
  have hne_x_18_a0 : x_18 ≠ a0 := by have h9 := c_a0.lt; omega
  have hne_x_18_x_1 : x_18 ≠ x_1 := by have h9 := c_x_1.lt; omega
  have hne_x_18_x_2 : x_18 ≠ x_2 := by have h9 := c_x_2.lt; omega
  have c_a0 := c_a0.kept (oq _ c_a0.lt)
  have c_x_1 := c_x_1.kept (oq _ c_x_1.lt)
  have c_x_2 := c_x_2.kept (oq _ c_x_2.lt)
  have hI := jv_keep hI (fun q hq => oq q (jv_lt hI hq))
  clear oq hz9 hx9
  refine lv_dup hx hb dX4_init_101 rfl ?_
  have hzH : n0 ≤ H.size := by have h8 := hS.1; omega
  have hxl := c_x_18.lt
  refine va_callv (va_runIN (As := []) (rest := [.ref x_18, .int (kz 1), .ref x_2]) ⟨hx, hb, hml, hown, hts⟩ (k_Path l dC dI ca X hU x_18 H.size (9 : Nat) h0_x_18 (fidL_no hfid (by decide) (by decide)) (fidL_no hfid (by decide) (by decide)) (fidL_no hfid (by decide) (by decide)) (fidL_no hfid (by decide) (by decide))) ⟨va_cnB 0 hts gX4_init_X5_init_n55 rfl rfl rfl (jN_X4_55 hN) (hts (.initialized RX5) (by decide +kernel)) (by decide +kernel) ⟨Nat.le_of_ble_eq_true rfl, Nat.le_of_ble_eq_true rfl⟩, rfl, (hts (.instanceMethod yX5_init) (by decide +kernel))⟩ ⟨fun a U g mk q => by obtain ⟨q0, q1, ⟨qK, qN⟩, qI⟩ := q; exact ⟨q0, q1, ⟨va_K.moved (u := U) (U := U.calling g mk a) (Vm.Alike.refl U.vm) qK, jN_same (U := U.calling g mk a) rfl qN⟩, qI⟩, fun U hU9 hW => ⟨rfl, by rw [hU9], jK_warm hW ⟨hK, hN⟩, by rw [hU9]; exact ⟨jv_A2 hI (fun _ _ => trivial), c_x_18⟩⟩⟩ rfl rfl hl.1 rfl (lv_room (Nat.le_of_ble_eq_true rfl)) dX4_init_102 ⟨(Nat.le_of_ble_eq_true rfl), (Nat.le_of_ble_eq_true rfl)⟩) hS (fun q h8 h9 => h9.elim (fun e9 => by rw [e9]; exact (hA _ hge_x_18)) (fun e9 => absurd e9 (by omega))) (fun q h9 => h9.elim (fun e9 => by rw [e9]; exact (hA _ hge_x_18)) (fun e9 => hA q (by omega))) (fun X t9 H locs ht hvm hw_19 hB hz1 hk1 hS => ?_)
  obtain ⟨hw_19, hw_19g, hU⟩ := hw_19
  obtain ⟨-, hI⟩ := hB
  rw [ht] at hI
  clear ht hvm
  have hle9 := nw_le hw_19
  have h9 := c_a0.lt
  have c_a0 := c_a0.kept (hk1 _ h9 (fun e9 => e9.elim (Ne.symm hne_x_18_a0) (fun e8 => absurd e8 (by omega))))
  have h8_a0 := nw_0 hw_19 h0_a0 (Ne.symm hne_x_18_a0) h9
  have h9 := c_x_1.lt
  have c_x_1 := c_x_1.kept (hk1 _ h9 (fun e9 => e9.elim (Ne.symm hne_x_18_x_1) (fun e8 => absurd e8 (by omega))))
  have h8_x_1 := nw_0 hw_19 h0_x_1 (Ne.symm hne_x_18_x_1) h9
  have h9 := c_x_2.lt
  have c_x_2 := c_x_2.kept (hk1 _ h9 (fun e9 => e9.elim (Ne.symm hne_x_18_x_2) (fun e8 => absurd e8 (by omega))))
  have h8_x_2 := nw_0 hw_19 h0_x_2 (Ne.symm hne_x_18_x_2) h9
  have h0_a0 := h8_a0
  have h0_x_1 := h8_x_1
  have h0_x_2 := h8_x_2
  have hno_4 := nw_no hw_19 hno_4 (by decide +kernel)
  have hno_226 := nw_no hw_19 hno_226 (by decide +kernel)
  have hno_227 := nw_no hw_19 hno_227 (by decide +kernel)
  have hJ := nw_tr hJ hw_19 (Or.inr hge_x_18) hzH (by decide +kernel)
  have hfid : fidL X [2, 3, 4, 5, 6, 7, 10, 11, 12, 13, 14, 15] := fidL_nw hw_19 hfid (by decide) (fun t ht => by rw [Lp_fid _ t ht]; decide)
  have g_tg := le_t hle9 g_tg (show (30 : Nat) ≠ 0 by decide)
  have g_x_3 := le_t hle9 g_x_3 (show (20 : Nat) ≠ 0 by decide)
  have g_x_4 := le_t hle9 g_x_4 (show (30 : Nat) ≠ 0 by decide)
  have g_x_6 := le_t hle9 g_x_6 (show (30 : Nat) ≠ 0 by decide)
  have g_x_10 := le_t hle9 g_x_10 (show (30 : Nat) ≠ 0 by decide)
  have g_x_14 := le_t hle9 g_x_14 (show (30 : Nat) ≠ 0 by decide)
  clear hle9 hxl hk1 hz1
  have g_x_18 := hw_19g
  obtain ⟨fs9, co_20, jo9⟩ := jv_o5 hI g_x_18
  obtain ⟨chain_20, cost_20, spent_20, place_20, ended_20, rank_20, rfl, g_chain_20, ⟨cost_20a, cost_20b⟩, ⟨spent_20a, spent_20b⟩, ⟨place_20a, place_20b⟩, ⟨ended_20a, ended_20b⟩, ⟨rank_20a, rank_20b⟩⟩ := jo9
  refine jz_aast hx hb hK 6 5 c_x_2 co_20 rfl rfl hS (hA _ hge_x_2) (by omega) (by decide) dX4_init_105 (fun H locs c9 oq hS => ?_)
  have hI := jv_skip hI h0_x_2 oq
  have c_a0 := c_a0.kept (oq _ (Ne.symm hne_x_2_a0))
  have c_x_1 := c_x_1.kept (oq _ (Ne.symm hne_x_2_x_1))
  have co_20 := co_20.kept (oq _ (kn_ne0 g_x_18 h0_x_2 (show (30 : Nat) ≠ 0 by decide)))
  obtain ⟨f_21, ef_21⟩ : ∃ f9 : Nat → Option Nat, f9 = va_up f_13 (Int.toNat 1) (some x_18) := ⟨_, rfl⟩
  rw [← ef_21] at c9
  have c_x_2 := c9
  clear oq c9
  refine lv_iinc (v := kz 2) (lv' := [(2, .int (kz 2)), (0, .ref a0), (1, .ref tg)]) hx hb dX4_init_106 hl (k := 0) rfl (by decide) (by decide) rfl (fun ls hl => ?_)
  refine lv_goto (tgt := 74) hx hb dX4_init_109 (by decide) ?_
  refine lv_iload_n hx hb dX4_init_74 rfl (lv_at hl 0 rfl) ?_
  refine lv_bipush (v := kz 8) hx hb dX4_init_75 (by decide) ?_
  refine iz_ge (tgt := 112) hx hb dX4_init_77 (by decide) (by unfold rg2; omega) (fun q9 => absurd q9 (by decide)) (fun _ => ?_)
  refine lv_aload_n hx hb dX4_init_80 rfl (lv_at hl 1 rfl) ?_
  refine iz_get (D := (dC, dI)) (ci := 4) (v := .ref x_1) (C := RX4) (T := TX4) (N := 10) hx hb hts hinX4 hown hK c_a0 rfl 3 (by decide) hL24 (fun _ h9 => h9) rfl dX4_init_81 ?_
  refine lv_iload_n hx hb dX4_init_84 rfl (lv_at hl 0 rfl) ?_
  have hzH : n0 ≤ H.size := by have h8 := hS.1; omega
  refine jz_new (ci := 5) (fs := [.null, .int (kz 0), .int (kz 0), .int (kz 0), .int (kz 0), .int (kz 0)]) (C := RX5) (T := TX5) (N := 6) hx hb hts (by decide +kernel) tyX5 tyX5_ok hown (hts (.classLink RX4 22 RX5) (by decide +kernel)) (hts (.instantiable RX5 6) (by decide +kernel)) (hts (.initialized RX5) (by decide +kernel)) hK hS rfl (fun j hj => by rcases (show j = 0 ∨ j = 1 ∨ j = 2 ∨ j = 3 ∨ j = 4 ∨ j = 5 by omega) with rfl | rfl | rfl | rfl | rfl | rfl <;> rfl) (Nat.le_of_ble_eq_true rfl) (Nat.le_of_ble_eq_true rfl) dX4_init_85 (fun x_22 H hx9 c_x_22 oq hz9 hS => ?_)
  have h0_x_22 : (X.1 x_22).2.1 = 0 := jv_out hI (by omega)
  have hge_x_22 : n0 ≤ x_22 := by omega
  have hne_x_22_a0 : x_22 ≠ a0 := by have h9 := c_a0.lt; omega
  have hne_x_22_x_1 : x_22 ≠ x_1 := by have h9 := c_x_1.lt; omega
  have hne_x_22_x_2 : x_22 ≠ x_2 := by have h9 := c_x_2.lt; omega
  have c_a0 := c_a0.kept (oq _ c_a0.lt)
  have c_x_1 := c_x_1.kept (oq _ c_x_1.lt)
  have c_x_2 := c_x_2.kept (oq _ c_x_2.lt)
  have hI := jv_keep hI (fun q hq => oq q (jv_lt hI hq))
  clear oq hz9 hx9
  refine lv_dup hx hb dX4_init_88 rfl ?_
  have hzH : n0 ≤ H.size := by have h8 := hS.1; omega
  have hxl := c_x_22.lt
  refine va_callv (va_runIN (As := []) (rest := [.ref x_22, .int (kz 2), .ref x_1]) ⟨hx, hb, hml, hown, hts⟩ (k_Path l dC dI ca X hU x_22 H.size (2 : Nat) h0_x_22 (fidL_no hfid (by decide) (by decide)) (fidL_no hfid (by decide) (by decide)) (fidL_no hfid (by decide) (by decide)) (fidL_no hfid (by decide) (by decide))) ⟨va_cnB 0 hts gX4_init_X5_init_n55 rfl rfl rfl (jN_X4_55 hN) (hts (.initialized RX5) (by decide +kernel)) (by decide +kernel) ⟨Nat.le_of_ble_eq_true rfl, Nat.le_of_ble_eq_true rfl⟩, rfl, (hts (.instanceMethod yX5_init) (by decide +kernel))⟩ ⟨fun a U g mk q => by obtain ⟨q0, q1, ⟨qK, qN⟩, qI⟩ := q; exact ⟨q0, q1, ⟨va_K.moved (u := U) (U := U.calling g mk a) (Vm.Alike.refl U.vm) qK, jN_same (U := U.calling g mk a) rfl qN⟩, qI⟩, fun U hU9 hW => ⟨rfl, by rw [hU9], jK_warm hW ⟨hK, hN⟩, by rw [hU9]; exact ⟨jv_A2 hI (fun _ _ => trivial), c_x_22⟩⟩⟩ rfl rfl hl.1 rfl (lv_room (Nat.le_of_ble_eq_true rfl)) dX4_init_89 ⟨(Nat.le_of_ble_eq_true rfl), (Nat.le_of_ble_eq_true rfl)⟩) hS (fun q h8 h9 => h9.elim (fun e9 => by rw [e9]; exact (hA _ hge_x_22)) (fun e9 => absurd e9 (by omega))) (fun q h9 => h9.elim (fun e9 => by rw [e9]; exact (hA _ hge_x_22)) (fun e9 => hA q (by omega))) (fun X t9 H locs ht hvm hw_23 hB hz1 hk1 hS => ?_)
  obtain ⟨hw_23, hw_23g, hU⟩ := hw_23
  obtain ⟨-, hI⟩ := hB
  rw [ht] at hI
  clear ht hvm
  have hle9 := nw_le hw_23
  have h9 := c_a0.lt
  have c_a0 := c_a0.kept (hk1 _ h9 (fun e9 => e9.elim (Ne.symm hne_x_22_a0) (fun e8 => absurd e8 (by omega))))
  have h8_a0 := nw_0 hw_23 h0_a0 (Ne.symm hne_x_22_a0) h9
  have h9 := c_x_1.lt
  have c_x_1 := c_x_1.kept (hk1 _ h9 (fun e9 => e9.elim (Ne.symm hne_x_22_x_1) (fun e8 => absurd e8 (by omega))))
  have h8_x_1 := nw_0 hw_23 h0_x_1 (Ne.symm hne_x_22_x_1) h9
  have h9 := c_x_2.lt
  have c_x_2 := c_x_2.kept (hk1 _ h9 (fun e9 => e9.elim (Ne.symm hne_x_22_x_2) (fun e8 => absurd e8 (by omega))))
  have h8_x_2 := nw_0 hw_23 h0_x_2 (Ne.symm hne_x_22_x_2) h9
  have h0_a0 := h8_a0
  have h0_x_1 := h8_x_1
  have h0_x_2 := h8_x_2
  have hno_4 := nw_no hw_23 hno_4 (by decide +kernel)
  have hno_226 := nw_no hw_23 hno_226 (by decide +kernel)
  have hno_227 := nw_no hw_23 hno_227 (by decide +kernel)
  have hJ := nw_tr hJ hw_23 (Or.inr hge_x_22) hzH (by decide +kernel)
  have hfid : fidL X [3, 4, 5, 6, 7, 10, 11, 12, 13, 14, 15] := fidL_nw hw_23 hfid (by decide) (fun t ht => by rw [Lp_fid _ t ht]; decide)
  have g_tg := le_t hle9 g_tg (show (30 : Nat) ≠ 0 by decide)
  have g_x_3 := le_t hle9 g_x_3 (show (20 : Nat) ≠ 0 by decide)
  have g_x_4 := le_t hle9 g_x_4 (show (30 : Nat) ≠ 0 by decide)
  have g_x_6 := le_t hle9 g_x_6 (show (30 : Nat) ≠ 0 by decide)
  have g_x_10 := le_t hle9 g_x_10 (show (30 : Nat) ≠ 0 by decide)
  have g_x_14 := le_t hle9 g_x_14 (show (30 : Nat) ≠ 0 by decide)
  have g_x_18 := le_t hle9 g_x_18 (show (30 : Nat) ≠ 0 by decide)
  clear hle9 hxl hk1 hz1
  have g_x_22 := hw_23g
  obtain ⟨fs9, co_24, jo9⟩ := jv_o5 hI g_x_22
  obtain ⟨chain_24, cost_24, spent_24, place_24, ended_24, rank_24, rfl, g_chain_24, ⟨cost_24a, cost_24b⟩, ⟨spent_24a, spent_24b⟩, ⟨place_24a, place_24b⟩, ⟨ended_24a, ended_24b⟩, ⟨rank_24a, rank_24b⟩⟩ := jo9
  refine jz_aast hx hb hK 6 5 c_x_1 co_24 rfl rfl hS (hA _ hge_x_1) (by omega) (by decide) dX4_init_92 (fun H locs c9 oq hS => ?_)
  have hI := jv_skip hI h0_x_1 oq
  have c_a0 := c_a0.kept (oq _ (Ne.symm hne_x_1_a0))
  have c_x_2 := c_x_2.kept (oq _ hne_x_2_x_1)
  have co_24 := co_24.kept (oq _ (kn_ne0 g_x_22 h0_x_1 (show (30 : Nat) ≠ 0 by decide)))
  obtain ⟨f_25, ef_25⟩ : ∃ f9 : Nat → Option Nat, f9 = va_up f_17 (Int.toNat 2) (some x_22) := ⟨_, rfl⟩
  rw [← ef_25] at c9
  have c_x_1 := c9
  clear oq c9
  refine lv_aload_n hx hb dX4_init_93 rfl (lv_at hl 1 rfl) ?_
  refine iz_get (D := (dC, dI)) (ci := 4) (v := .ref x_2) (C := RX4) (T := TX4) (N := 10) hx hb hts hinX4 hown hK c_a0 rfl 5 (by decide) hL32 (fun _ h9 => h9) rfl dX4_init_94 ?_
  refine lv_iload_n hx hb dX4_init_97 rfl (lv_at hl 0 rfl) ?_
  have hzH : n0 ≤ H.size := by have h8 := hS.1; omega
  refine jz_new (ci := 5) (fs := [.null, .int (kz 0), .int (kz 0), .int (kz 0), .int (kz 0), .int (kz 0)]) (C := RX5) (T := TX5) (N := 6) hx hb hts (by decide +kernel) tyX5 tyX5_ok hown (hts (.classLink RX4 22 RX5) (by decide +kernel)) (hts (.instantiable RX5 6) (by decide +kernel)) (hts (.initialized RX5) (by decide +kernel)) hK hS rfl (fun j hj => by rcases (show j = 0 ∨ j = 1 ∨ j = 2 ∨ j = 3 ∨ j = 4 ∨ j = 5 by omega) with rfl | rfl | rfl | rfl | rfl | rfl <;> rfl) (Nat.le_of_ble_eq_true rfl) (Nat.le_of_ble_eq_true rfl) dX4_init_98 (fun x_26 H hx9 c_x_26 oq hz9 hS => ?_)
  have h0_x_26 : (X.1 x_26).2.1 = 0 := jv_out hI (by omega)
  have hge_x_26 : n0 ≤ x_26 := by omega
  have hne_x_26_a0 : x_26 ≠ a0 := by have h9 := c_a0.lt; omega
  have hne_x_26_x_1 : x_26 ≠ x_1 := by have h9 := c_x_1.lt; omega
  have hne_x_26_x_2 : x_26 ≠ x_2 := by have h9 := c_x_2.lt; omega
  have c_a0 := c_a0.kept (oq _ c_a0.lt)
  have c_x_1 := c_x_1.kept (oq _ c_x_1.lt)
  have c_x_2 := c_x_2.kept (oq _ c_x_2.lt)
  have hI := jv_keep hI (fun q hq => oq q (jv_lt hI hq))
  clear oq hz9 hx9
  refine lv_dup hx hb dX4_init_101 rfl ?_
  have hzH : n0 ≤ H.size := by have h8 := hS.1; omega
  have hxl := c_x_26.lt
  refine va_callv (va_runIN (As := []) (rest := [.ref x_26, .int (kz 2), .ref x_2]) ⟨hx, hb, hml, hown, hts⟩ (k_Path l dC dI ca X hU x_26 H.size (10 : Nat) h0_x_26 (fidL_no hfid (by decide) (by decide)) (fidL_no hfid (by decide) (by decide)) (fidL_no hfid (by decide) (by decide)) (fidL_no hfid (by decide) (by decide))) ⟨va_cnB 0 hts gX4_init_X5_init_n55 rfl rfl rfl (jN_X4_55 hN) (hts (.initialized RX5) (by decide +kernel)) (by decide +kernel) ⟨Nat.le_of_ble_eq_true rfl, Nat.le_of_ble_eq_true rfl⟩, rfl, (hts (.instanceMethod yX5_init) (by decide +kernel))⟩ ⟨fun a U g mk q => by obtain ⟨q0, q1, ⟨qK, qN⟩, qI⟩ := q; exact ⟨q0, q1, ⟨va_K.moved (u := U) (U := U.calling g mk a) (Vm.Alike.refl U.vm) qK, jN_same (U := U.calling g mk a) rfl qN⟩, qI⟩, fun U hU9 hW => ⟨rfl, by rw [hU9], jK_warm hW ⟨hK, hN⟩, by rw [hU9]; exact ⟨jv_A2 hI (fun _ _ => trivial), c_x_26⟩⟩⟩ rfl rfl hl.1 rfl (lv_room (Nat.le_of_ble_eq_true rfl)) dX4_init_102 ⟨(Nat.le_of_ble_eq_true rfl), (Nat.le_of_ble_eq_true rfl)⟩) hS (fun q h8 h9 => h9.elim (fun e9 => by rw [e9]; exact (hA _ hge_x_26)) (fun e9 => absurd e9 (by omega))) (fun q h9 => h9.elim (fun e9 => by rw [e9]; exact (hA _ hge_x_26)) (fun e9 => hA q (by omega))) (fun X t9 H locs ht hvm hw_27 hB hz1 hk1 hS => ?_)
  obtain ⟨hw_27, hw_27g, hU⟩ := hw_27
  obtain ⟨-, hI⟩ := hB
  rw [ht] at hI
  clear ht hvm
  have hle9 := nw_le hw_27
  have h9 := c_a0.lt
  have c_a0 := c_a0.kept (hk1 _ h9 (fun e9 => e9.elim (Ne.symm hne_x_26_a0) (fun e8 => absurd e8 (by omega))))
  have h8_a0 := nw_0 hw_27 h0_a0 (Ne.symm hne_x_26_a0) h9
  have h9 := c_x_1.lt
  have c_x_1 := c_x_1.kept (hk1 _ h9 (fun e9 => e9.elim (Ne.symm hne_x_26_x_1) (fun e8 => absurd e8 (by omega))))
  have h8_x_1 := nw_0 hw_27 h0_x_1 (Ne.symm hne_x_26_x_1) h9
  have h9 := c_x_2.lt
  have c_x_2 := c_x_2.kept (hk1 _ h9 (fun e9 => e9.elim (Ne.symm hne_x_26_x_2) (fun e8 => absurd e8 (by omega))))
  have h8_x_2 := nw_0 hw_27 h0_x_2 (Ne.symm hne_x_26_x_2) h9
  have h0_a0 := h8_a0
  have h0_x_1 := h8_x_1
  have h0_x_2 := h8_x_2
  have hno_4 := nw_no hw_27 hno_4 (by decide +kernel)
  have hno_226 := nw_no hw_27 hno_226 (by decide +kernel)
  have hno_227 := nw_no hw_27 hno_227 (by decide +kernel)
  have hJ := nw_tr hJ hw_27 (Or.inr hge_x_26) hzH (by decide +kernel)
  have hfid : fidL X [3, 4, 5, 6, 7, 11, 12, 13, 14, 15] := fidL_nw hw_27 hfid (by decide) (fun t ht => by rw [Lp_fid _ t ht]; decide)
  have g_tg := le_t hle9 g_tg (show (30 : Nat) ≠ 0 by decide)
  have g_x_3 := le_t hle9 g_x_3 (show (20 : Nat) ≠ 0 by decide)
  have g_x_4 := le_t hle9 g_x_4 (show (30 : Nat) ≠ 0 by decide)
  have g_x_6 := le_t hle9 g_x_6 (show (30 : Nat) ≠ 0 by decide)
  have g_x_10 := le_t hle9 g_x_10 (show (30 : Nat) ≠ 0 by decide)
  have g_x_14 := le_t hle9 g_x_14 (show (30 : Nat) ≠ 0 by decide)
  have g_x_18 := le_t hle9 g_x_18 (show (30 : Nat) ≠ 0 by decide)
  have g_x_22 := le_t hle9 g_x_22 (show (30 : Nat) ≠ 0 by decide)
  clear hle9 hxl hk1 hz1
  have g_x_26 := hw_27g
  obtain ⟨fs9, co_28, jo9⟩ := jv_o5 hI g_x_26
  obtain ⟨chain_28, cost_28, spent_28, place_28, ended_28, rank_28, rfl, g_chain_28, ⟨cost_28a, cost_28b⟩, ⟨spent_28a, spent_28b⟩, ⟨place_28a, place_28b⟩, ⟨ended_28a, ended_28b⟩, ⟨rank_28a, rank_28b⟩⟩ := jo9
  refine jz_aast hx hb hK 6 5 c_x_2 co_28 rfl rfl hS (hA _ hge_x_2) (by omega) (by decide) dX4_init_105 (fun H locs c9 oq hS => ?_)
  have hI := jv_skip hI h0_x_2 oq
  have c_a0 := c_a0.kept (oq _ (Ne.symm hne_x_2_a0))
  have c_x_1 := c_x_1.kept (oq _ (Ne.symm hne_x_2_x_1))
  have co_28 := co_28.kept (oq _ (kn_ne0 g_x_26 h0_x_2 (show (30 : Nat) ≠ 0 by decide)))
  obtain ⟨f_29, ef_29⟩ : ∃ f9 : Nat → Option Nat, f9 = va_up f_21 (Int.toNat 2) (some x_26) := ⟨_, rfl⟩
  rw [← ef_29] at c9
  have c_x_2 := c9
  clear oq c9
  refine lv_iinc (v := kz 3) (lv' := [(2, .int (kz 3)), (0, .ref a0), (1, .ref tg)]) hx hb dX4_init_106 hl (k := 0) rfl (by decide) (by decide) rfl (fun ls hl => ?_)
  refine lv_goto (tgt := 74) hx hb dX4_init_109 (by decide) ?_
  refine lv_iload_n hx hb dX4_init_74 rfl (lv_at hl 0 rfl) ?_
  refine lv_bipush (v := kz 8) hx hb dX4_init_75 (by decide) ?_
  refine iz_ge (tgt := 112) hx hb dX4_init_77 (by decide) (by unfold rg2; omega) (fun q9 => absurd q9 (by decide)) (fun _ => ?_)
  refine lv_aload_n hx hb dX4_init_80 rfl (lv_at hl 1 rfl) ?_
  refine iz_get (D := (dC, dI)) (ci := 4) (v := .ref x_1) (C := RX4) (T := TX4) (N := 10) hx hb hts hinX4 hown hK c_a0 rfl 3 (by decide) hL24 (fun _ h9 => h9) rfl dX4_init_81 ?_
  refine lv_iload_n hx hb dX4_init_84 rfl (lv_at hl 0 rfl) ?_
  have hzH : n0 ≤ H.size := by have h8 := hS.1; omega
  refine jz_new (ci := 5) (fs := [.null, .int (kz 0), .int (kz 0), .int (kz 0), .int (kz 0), .int (kz 0)]) (C := RX5) (T := TX5) (N := 6) hx hb hts (by decide +kernel) tyX5 tyX5_ok hown (hts (.classLink RX4 22 RX5) (by decide +kernel)) (hts (.instantiable RX5 6) (by decide +kernel)) (hts (.initialized RX5) (by decide +kernel)) hK hS rfl (fun j hj => by rcases (show j = 0 ∨ j = 1 ∨ j = 2 ∨ j = 3 ∨ j = 4 ∨ j = 5 by omega) with rfl | rfl | rfl | rfl | rfl | rfl <;> rfl) (Nat.le_of_ble_eq_true rfl) (Nat.le_of_ble_eq_true rfl) dX4_init_85 (fun x_30 H hx9 c_x_30 oq hz9 hS => ?_)
  have h0_x_30 : (X.1 x_30).2.1 = 0 := jv_out hI (by omega)
  have hge_x_30 : n0 ≤ x_30 := by omega
  have hne_x_30_a0 : x_30 ≠ a0 := by have h9 := c_a0.lt; omega
  have hne_x_30_x_1 : x_30 ≠ x_1 := by have h9 := c_x_1.lt; omega
  have hne_x_30_x_2 : x_30 ≠ x_2 := by have h9 := c_x_2.lt; omega
  have c_a0 := c_a0.kept (oq _ c_a0.lt)
  have c_x_1 := c_x_1.kept (oq _ c_x_1.lt)
  have c_x_2 := c_x_2.kept (oq _ c_x_2.lt)
  have hI := jv_keep hI (fun q hq => oq q (jv_lt hI hq))
  clear oq hz9 hx9
  refine lv_dup hx hb dX4_init_88 rfl ?_
  have hzH : n0 ≤ H.size := by have h8 := hS.1; omega
  have hxl := c_x_30.lt
  refine va_callv (va_runIN (As := []) (rest := [.ref x_30, .int (kz 3), .ref x_1]) ⟨hx, hb, hml, hown, hts⟩ (k_Path l dC dI ca X hU x_30 H.size (3 : Nat) h0_x_30 (fidL_no hfid (by decide) (by decide)) (fidL_no hfid (by decide) (by decide)) (fidL_no hfid (by decide) (by decide)) (fidL_no hfid (by decide) (by decide))) ⟨va_cnB 0 hts gX4_init_X5_init_n55 rfl rfl rfl (jN_X4_55 hN) (hts (.initialized RX5) (by decide +kernel)) (by decide +kernel) ⟨Nat.le_of_ble_eq_true rfl, Nat.le_of_ble_eq_true rfl⟩, rfl, (hts (.instanceMethod yX5_init) (by decide +kernel))⟩ ⟨fun a U g mk q => by obtain ⟨q0, q1, ⟨qK, qN⟩, qI⟩ := q; exact ⟨q0, q1, ⟨va_K.moved (u := U) (U := U.calling g mk a) (Vm.Alike.refl U.vm) qK, jN_same (U := U.calling g mk a) rfl qN⟩, qI⟩, fun U hU9 hW => ⟨rfl, by rw [hU9], jK_warm hW ⟨hK, hN⟩, by rw [hU9]; exact ⟨jv_A2 hI (fun _ _ => trivial), c_x_30⟩⟩⟩ rfl rfl hl.1 rfl (lv_room (Nat.le_of_ble_eq_true rfl)) dX4_init_89 ⟨(Nat.le_of_ble_eq_true rfl), (Nat.le_of_ble_eq_true rfl)⟩) hS (fun q h8 h9 => h9.elim (fun e9 => by rw [e9]; exact (hA _ hge_x_30)) (fun e9 => absurd e9 (by omega))) (fun q h9 => h9.elim (fun e9 => by rw [e9]; exact (hA _ hge_x_30)) (fun e9 => hA q (by omega))) (fun X t9 H locs ht hvm hw_31 hB hz1 hk1 hS => ?_)
  obtain ⟨hw_31, hw_31g, hU⟩ := hw_31
  obtain ⟨-, hI⟩ := hB
  rw [ht] at hI
  clear ht hvm
  have hle9 := nw_le hw_31
  have h9 := c_a0.lt
  have c_a0 := c_a0.kept (hk1 _ h9 (fun e9 => e9.elim (Ne.symm hne_x_30_a0) (fun e8 => absurd e8 (by omega))))
  have h8_a0 := nw_0 hw_31 h0_a0 (Ne.symm hne_x_30_a0) h9
  have h9 := c_x_1.lt
  have c_x_1 := c_x_1.kept (hk1 _ h9 (fun e9 => e9.elim (Ne.symm hne_x_30_x_1) (fun e8 => absurd e8 (by omega))))
  have h8_x_1 := nw_0 hw_31 h0_x_1 (Ne.symm hne_x_30_x_1) h9
  have h9 := c_x_2.lt
  have c_x_2 := c_x_2.kept (hk1 _ h9 (fun e9 => e9.elim (Ne.symm hne_x_30_x_2) (fun e8 => absurd e8 (by omega))))
  have h8_x_2 := nw_0 hw_31 h0_x_2 (Ne.symm hne_x_30_x_2) h9
  have h0_a0 := h8_a0
  have h0_x_1 := h8_x_1
  have h0_x_2 := h8_x_2
  have hno_4 := nw_no hw_31 hno_4 (by decide +kernel)
  have hno_226 := nw_no hw_31 hno_226 (by decide +kernel)
  have hno_227 := nw_no hw_31 hno_227 (by decide +kernel)
  have hJ := nw_tr hJ hw_31 (Or.inr hge_x_30) hzH (by decide +kernel)
  have hfid : fidL X [4, 5, 6, 7, 11, 12, 13, 14, 15] := fidL_nw hw_31 hfid (by decide) (fun t ht => by rw [Lp_fid _ t ht]; decide)
  have g_tg := le_t hle9 g_tg (show (30 : Nat) ≠ 0 by decide)
  have g_x_3 := le_t hle9 g_x_3 (show (20 : Nat) ≠ 0 by decide)
  have g_x_4 := le_t hle9 g_x_4 (show (30 : Nat) ≠ 0 by decide)
  have g_x_6 := le_t hle9 g_x_6 (show (30 : Nat) ≠ 0 by decide)
  have g_x_10 := le_t hle9 g_x_10 (show (30 : Nat) ≠ 0 by decide)
  have g_x_14 := le_t hle9 g_x_14 (show (30 : Nat) ≠ 0 by decide)
  have g_x_18 := le_t hle9 g_x_18 (show (30 : Nat) ≠ 0 by decide)
  have g_x_22 := le_t hle9 g_x_22 (show (30 : Nat) ≠ 0 by decide)
  have g_x_26 := le_t hle9 g_x_26 (show (30 : Nat) ≠ 0 by decide)
  clear hle9 hxl hk1 hz1
  have g_x_30 := hw_31g
  obtain ⟨fs9, co_32, jo9⟩ := jv_o5 hI g_x_30
  obtain ⟨chain_32, cost_32, spent_32, place_32, ended_32, rank_32, rfl, g_chain_32, ⟨cost_32a, cost_32b⟩, ⟨spent_32a, spent_32b⟩, ⟨place_32a, place_32b⟩, ⟨ended_32a, ended_32b⟩, ⟨rank_32a, rank_32b⟩⟩ := jo9
  refine jz_aast hx hb hK 6 5 c_x_1 co_32 rfl rfl hS (hA _ hge_x_1) (by omega) (by decide) dX4_init_92 (fun H locs c9 oq hS => ?_)
  have hI := jv_skip hI h0_x_1 oq
  have c_a0 := c_a0.kept (oq _ (Ne.symm hne_x_1_a0))
  have c_x_2 := c_x_2.kept (oq _ hne_x_2_x_1)
  have co_32 := co_32.kept (oq _ (kn_ne0 g_x_30 h0_x_1 (show (30 : Nat) ≠ 0 by decide)))
  obtain ⟨f_33, ef_33⟩ : ∃ f9 : Nat → Option Nat, f9 = va_up f_25 (Int.toNat 3) (some x_30) := ⟨_, rfl⟩
  rw [← ef_33] at c9
  have c_x_1 := c9
  clear oq c9
  refine lv_aload_n hx hb dX4_init_93 rfl (lv_at hl 1 rfl) ?_
  refine iz_get (D := (dC, dI)) (ci := 4) (v := .ref x_2) (C := RX4) (T := TX4) (N := 10) hx hb hts hinX4 hown hK c_a0 rfl 5 (by decide) hL32 (fun _ h9 => h9) rfl dX4_init_94 ?_
  refine lv_iload_n hx hb dX4_init_97 rfl (lv_at hl 0 rfl) ?_
  have hzH : n0 ≤ H.size := by have h8 := hS.1; omega
  refine jz_new (ci := 5) (fs := [.null, .int (kz 0), .int (kz 0), .int (kz 0), .int (kz 0), .int (kz 0)]) (C := RX5) (T := TX5) (N := 6) hx hb hts (by decide +kernel) tyX5 tyX5_ok hown (hts (.classLink RX4 22 RX5) (by decide +kernel)) (hts (.instantiable RX5 6) (by decide +kernel)) (hts (.initialized RX5) (by decide +kernel)) hK hS rfl (fun j hj => by rcases (show j = 0 ∨ j = 1 ∨ j = 2 ∨ j = 3 ∨ j = 4 ∨ j = 5 by omega) with rfl | rfl | rfl | rfl | rfl | rfl <;> rfl) (Nat.le_of_ble_eq_true rfl) (Nat.le_of_ble_eq_true rfl) dX4_init_98 (fun x_34 H hx9 c_x_34 oq hz9 hS => ?_)
  have h0_x_34 : (X.1 x_34).2.1 = 0 := jv_out hI (by omega)
  have hge_x_34 : n0 ≤ x_34 := by omega
  have hne_x_34_a0 : x_34 ≠ a0 := by have h9 := c_a0.lt; omega
  have hne_x_34_x_1 : x_34 ≠ x_1 := by have h9 := c_x_1.lt; omega
  have hne_x_34_x_2 : x_34 ≠ x_2 := by have h9 := c_x_2.lt; omega
  have c_a0 := c_a0.kept (oq _ c_a0.lt)
  have c_x_1 := c_x_1.kept (oq _ c_x_1.lt)
  have c_x_2 := c_x_2.kept (oq _ c_x_2.lt)
  have hI := jv_keep hI (fun q hq => oq q (jv_lt hI hq))
  clear oq hz9 hx9
  refine lv_dup hx hb dX4_init_101 rfl ?_
  have hzH : n0 ≤ H.size := by have h8 := hS.1; omega
  have hxl := c_x_34.lt
  refine va_callv (va_runIN (As := []) (rest := [.ref x_34, .int (kz 3), .ref x_2]) ⟨hx, hb, hml, hown, hts⟩ (k_Path l dC dI ca X hU x_34 H.size (11 : Nat) h0_x_34 (fidL_no hfid (by decide) (by decide)) (fidL_no hfid (by decide) (by decide)) (fidL_no hfid (by decide) (by decide)) (fidL_no hfid (by decide) (by decide))) ⟨va_cnB 0 hts gX4_init_X5_init_n55 rfl rfl rfl (jN_X4_55 hN) (hts (.initialized RX5) (by decide +kernel)) (by decide +kernel) ⟨Nat.le_of_ble_eq_true rfl, Nat.le_of_ble_eq_true rfl⟩, rfl, (hts (.instanceMethod yX5_init) (by decide +kernel))⟩ ⟨fun a U g mk q => by obtain ⟨q0, q1, ⟨qK, qN⟩, qI⟩ := q; exact ⟨q0, q1, ⟨va_K.moved (u := U) (U := U.calling g mk a) (Vm.Alike.refl U.vm) qK, jN_same (U := U.calling g mk a) rfl qN⟩, qI⟩, fun U hU9 hW => ⟨rfl, by rw [hU9], jK_warm hW ⟨hK, hN⟩, by rw [hU9]; exact ⟨jv_A2 hI (fun _ _ => trivial), c_x_34⟩⟩⟩ rfl rfl hl.1 rfl (lv_room (Nat.le_of_ble_eq_true rfl)) dX4_init_102 ⟨(Nat.le_of_ble_eq_true rfl), (Nat.le_of_ble_eq_true rfl)⟩) hS (fun q h8 h9 => h9.elim (fun e9 => by rw [e9]; exact (hA _ hge_x_34)) (fun e9 => absurd e9 (by omega))) (fun q h9 => h9.elim (fun e9 => by rw [e9]; exact (hA _ hge_x_34)) (fun e9 => hA q (by omega))) (fun X t9 H locs ht hvm hw_35 hB hz1 hk1 hS => ?_)
  obtain ⟨hw_35, hw_35g, hU⟩ := hw_35
  obtain ⟨-, hI⟩ := hB
  rw [ht] at hI
  clear ht hvm
  have hle9 := nw_le hw_35
  have h9 := c_a0.lt
  have c_a0 := c_a0.kept (hk1 _ h9 (fun e9 => e9.elim (Ne.symm hne_x_34_a0) (fun e8 => absurd e8 (by omega))))
  have h8_a0 := nw_0 hw_35 h0_a0 (Ne.symm hne_x_34_a0) h9
  have h9 := c_x_1.lt
  have c_x_1 := c_x_1.kept (hk1 _ h9 (fun e9 => e9.elim (Ne.symm hne_x_34_x_1) (fun e8 => absurd e8 (by omega))))
  have h8_x_1 := nw_0 hw_35 h0_x_1 (Ne.symm hne_x_34_x_1) h9
  have h9 := c_x_2.lt
  have c_x_2 := c_x_2.kept (hk1 _ h9 (fun e9 => e9.elim (Ne.symm hne_x_34_x_2) (fun e8 => absurd e8 (by omega))))
  have h8_x_2 := nw_0 hw_35 h0_x_2 (Ne.symm hne_x_34_x_2) h9
  have h0_a0 := h8_a0
  have h0_x_1 := h8_x_1
  have h0_x_2 := h8_x_2
  have hno_4 := nw_no hw_35 hno_4 (by decide +kernel)
  have hno_226 := nw_no hw_35 hno_226 (by decide +kernel)
  have hno_227 := nw_no hw_35 hno_227 (by decide +kernel)
  have hJ := nw_tr hJ hw_35 (Or.inr hge_x_34) hzH (by decide +kernel)
  have hfid : fidL X [4, 5, 6, 7, 12, 13, 14, 15] := fidL_nw hw_35 hfid (by decide) (fun t ht => by rw [Lp_fid _ t ht]; decide)
  have g_tg := le_t hle9 g_tg (show (30 : Nat) ≠ 0 by decide)
  have g_x_3 := le_t hle9 g_x_3 (show (20 : Nat) ≠ 0 by decide)
  have g_x_4 := le_t hle9 g_x_4 (show (30 : Nat) ≠ 0 by decide)
  have g_x_6 := le_t hle9 g_x_6 (show (30 : Nat) ≠ 0 by decide)
  have g_x_10 := le_t hle9 g_x_10 (show (30 : Nat) ≠ 0 by decide)
  have g_x_14 := le_t hle9 g_x_14 (show (30 : Nat) ≠ 0 by decide)
  have g_x_18 := le_t hle9 g_x_18 (show (30 : Nat) ≠ 0 by decide)
  have g_x_22 := le_t hle9 g_x_22 (show (30 : Nat) ≠ 0 by decide)
  have g_x_26 := le_t hle9 g_x_26 (show (30 : Nat) ≠ 0 by decide)
  have g_x_30 := le_t hle9 g_x_30 (show (30 : Nat) ≠ 0 by decide)
  clear hle9 hxl hk1 hz1
  have g_x_34 := hw_35g
  obtain ⟨fs9, co_36, jo9⟩ := jv_o5 hI g_x_34
  obtain ⟨chain_36, cost_36, spent_36, place_36, ended_36, rank_36, rfl, g_chain_36, ⟨cost_36a, cost_36b⟩, ⟨spent_36a, spent_36b⟩, ⟨place_36a, place_36b⟩, ⟨ended_36a, ended_36b⟩, ⟨rank_36a, rank_36b⟩⟩ := jo9
  refine jz_aast hx hb hK 6 5 c_x_2 co_36 rfl rfl hS (hA _ hge_x_2) (by omega) (by decide) dX4_init_105 (fun H locs c9 oq hS => ?_)
  have hI := jv_skip hI h0_x_2 oq
  have c_a0 := c_a0.kept (oq _ (Ne.symm hne_x_2_a0))
  have c_x_1 := c_x_1.kept (oq _ (Ne.symm hne_x_2_x_1))
  have co_36 := co_36.kept (oq _ (kn_ne0 g_x_34 h0_x_2 (show (30 : Nat) ≠ 0 by decide)))
  obtain ⟨f_37, ef_37⟩ : ∃ f9 : Nat → Option Nat, f9 = va_up f_29 (Int.toNat 3) (some x_34) := ⟨_, rfl⟩
  rw [← ef_37] at c9
  have c_x_2 := c9
  clear oq c9
  refine lv_iinc (v := kz 4) (lv' := [(2, .int (kz 4)), (0, .ref a0), (1, .ref tg)]) hx hb dX4_init_106 hl (k := 0) rfl (by decide) (by decide) rfl (fun ls hl => ?_)
  refine lv_goto (tgt := 74) hx hb dX4_init_109 (by decide) ?_
  refine lv_iload_n hx hb dX4_init_74 rfl (lv_at hl 0 rfl) ?_
  refine lv_bipush (v := kz 8) hx hb dX4_init_75 (by decide) ?_
  refine iz_ge (tgt := 112) hx hb dX4_init_77 (by decide) (by unfold rg2; omega) (fun q9 => absurd q9 (by decide)) (fun _ => ?_)
  refine lv_aload_n hx hb dX4_init_80 rfl (lv_at hl 1 rfl) ?_
  refine iz_get (D := (dC, dI)) (ci := 4) (v := .ref x_1) (C := RX4) (T := TX4) (N := 10) hx hb hts hinX4 hown hK c_a0 rfl 3 (by decide) hL24 (fun _ h9 => h9) rfl dX4_init_81 ?_
  refine lv_iload_n hx hb dX4_init_84 rfl (lv_at hl 0 rfl) ?_
  have hzH : n0 ≤ H.size := by have h8 := hS.1; omega
  refine jz_new (ci := 5) (fs := [.null, .int (kz 0), .int (kz 0), .int (kz 0), .int (kz 0), .int (kz 0)]) (C := RX5) (T := TX5) (N := 6) hx hb hts (by decide +kernel) tyX5 tyX5_ok hown (hts (.classLink RX4 22 RX5) (by decide +kernel)) (hts (.instantiable RX5 6) (by decide +kernel)) (hts (.initialized RX5) (by decide +kernel)) hK hS rfl (fun j hj => by rcases (show j = 0 ∨ j = 1 ∨ j = 2 ∨ j = 3 ∨ j = 4 ∨ j = 5 by omega) with rfl | rfl | rfl | rfl | rfl | rfl <;> rfl) (Nat.le_of_ble_eq_true rfl) (Nat.le_of_ble_eq_true rfl) dX4_init_85 (fun x_38 H hx9 c_x_38 oq hz9 hS => ?_)
  have h0_x_38 : (X.1 x_38).2.1 = 0 := jv_out hI (by omega)
  have hge_x_38 : n0 ≤ x_38 := by omega
  have hne_x_38_a0 : x_38 ≠ a0 := by have h9 := c_a0.lt; omega
  have hne_x_38_x_1 : x_38 ≠ x_1 := by have h9 := c_x_1.lt; omega
  have hne_x_38_x_2 : x_38 ≠ x_2 := by have h9 := c_x_2.lt; omega
  have c_a0 := c_a0.kept (oq _ c_a0.lt)
  have c_x_1 := c_x_1.kept (oq _ c_x_1.lt)
  have c_x_2 := c_x_2.kept (oq _ c_x_2.lt)
  have hI := jv_keep hI (fun q hq => oq q (jv_lt hI hq))
  clear oq hz9 hx9
  refine lv_dup hx hb dX4_init_88 rfl ?_
  have hzH : n0 ≤ H.size := by have h8 := hS.1; omega
  have hxl := c_x_38.lt
  refine va_callv (va_runIN (As := []) (rest := [.ref x_38, .int (kz 4), .ref x_1]) ⟨hx, hb, hml, hown, hts⟩ (k_Path l dC dI ca X hU x_38 H.size (4 : Nat) h0_x_38 (fidL_no hfid (by decide) (by decide)) (fidL_no hfid (by decide) (by decide)) (fidL_no hfid (by decide) (by decide)) (fidL_no hfid (by decide) (by decide))) ⟨va_cnB 0 hts gX4_init_X5_init_n55 rfl rfl rfl (jN_X4_55 hN) (hts (.initialized RX5) (by decide +kernel)) (by decide +kernel) ⟨Nat.le_of_ble_eq_true rfl, Nat.le_of_ble_eq_true rfl⟩, rfl, (hts (.instanceMethod yX5_init) (by decide +kernel))⟩ ⟨fun a U g mk q => by obtain ⟨q0, q1, ⟨qK, qN⟩, qI⟩ := q; exact ⟨q0, q1, ⟨va_K.moved (u := U) (U := U.calling g mk a) (Vm.Alike.refl U.vm) qK, jN_same (U := U.calling g mk a) rfl qN⟩, qI⟩, fun U hU9 hW => ⟨rfl, by rw [hU9], jK_warm hW ⟨hK, hN⟩, by rw [hU9]; exact ⟨jv_A2 hI (fun _ _ => trivial), c_x_38⟩⟩⟩ rfl rfl hl.1 rfl (lv_room (Nat.le_of_ble_eq_true rfl)) dX4_init_89 ⟨(Nat.le_of_ble_eq_true rfl), (Nat.le_of_ble_eq_true rfl)⟩) hS (fun q h8 h9 => h9.elim (fun e9 => by rw [e9]; exact (hA _ hge_x_38)) (fun e9 => absurd e9 (by omega))) (fun q h9 => h9.elim (fun e9 => by rw [e9]; exact (hA _ hge_x_38)) (fun e9 => hA q (by omega))) (fun X t9 H locs ht hvm hw_39 hB hz1 hk1 hS => ?_)
  obtain ⟨hw_39, hw_39g, hU⟩ := hw_39
  obtain ⟨-, hI⟩ := hB
  rw [ht] at hI
  clear ht hvm
  have hle9 := nw_le hw_39
  have h9 := c_a0.lt
  have c_a0 := c_a0.kept (hk1 _ h9 (fun e9 => e9.elim (Ne.symm hne_x_38_a0) (fun e8 => absurd e8 (by omega))))
  have h8_a0 := nw_0 hw_39 h0_a0 (Ne.symm hne_x_38_a0) h9
  have h9 := c_x_1.lt
  have c_x_1 := c_x_1.kept (hk1 _ h9 (fun e9 => e9.elim (Ne.symm hne_x_38_x_1) (fun e8 => absurd e8 (by omega))))
  have h8_x_1 := nw_0 hw_39 h0_x_1 (Ne.symm hne_x_38_x_1) h9
  have h9 := c_x_2.lt
  have c_x_2 := c_x_2.kept (hk1 _ h9 (fun e9 => e9.elim (Ne.symm hne_x_38_x_2) (fun e8 => absurd e8 (by omega))))
  have h8_x_2 := nw_0 hw_39 h0_x_2 (Ne.symm hne_x_38_x_2) h9
  have h0_a0 := h8_a0
  have h0_x_1 := h8_x_1
  have h0_x_2 := h8_x_2
  have hno_4 := nw_no hw_39 hno_4 (by decide +kernel)
  have hno_226 := nw_no hw_39 hno_226 (by decide +kernel)
  have hno_227 := nw_no hw_39 hno_227 (by decide +kernel)
  have hJ := nw_tr hJ hw_39 (Or.inr hge_x_38) hzH (by decide +kernel)
  have hfid : fidL X [5, 6, 7, 12, 13, 14, 15] := fidL_nw hw_39 hfid (by decide) (fun t ht => by rw [Lp_fid _ t ht]; decide)
  have g_tg := le_t hle9 g_tg (show (30 : Nat) ≠ 0 by decide)
  have g_x_3 := le_t hle9 g_x_3 (show (20 : Nat) ≠ 0 by decide)
  have g_x_4 := le_t hle9 g_x_4 (show (30 : Nat) ≠ 0 by decide)
  have g_x_6 := le_t hle9 g_x_6 (show (30 : Nat) ≠ 0 by decide)
  have g_x_10 := le_t hle9 g_x_10 (show (30 : Nat) ≠ 0 by decide)
  have g_x_14 := le_t hle9 g_x_14 (show (30 : Nat) ≠ 0 by decide)
  have g_x_18 := le_t hle9 g_x_18 (show (30 : Nat) ≠ 0 by decide)
  have g_x_22 := le_t hle9 g_x_22 (show (30 : Nat) ≠ 0 by decide)
  have g_x_26 := le_t hle9 g_x_26 (show (30 : Nat) ≠ 0 by decide)
  have g_x_30 := le_t hle9 g_x_30 (show (30 : Nat) ≠ 0 by decide)
  have g_x_34 := le_t hle9 g_x_34 (show (30 : Nat) ≠ 0 by decide)
  clear hle9 hxl hk1 hz1
  have g_x_38 := hw_39g
  obtain ⟨fs9, co_40, jo9⟩ := jv_o5 hI g_x_38
  obtain ⟨chain_40, cost_40, spent_40, place_40, ended_40, rank_40, rfl, g_chain_40, ⟨cost_40a, cost_40b⟩, ⟨spent_40a, spent_40b⟩, ⟨place_40a, place_40b⟩, ⟨ended_40a, ended_40b⟩, ⟨rank_40a, rank_40b⟩⟩ := jo9
  refine jz_aast hx hb hK 6 5 c_x_1 co_40 rfl rfl hS (hA _ hge_x_1) (by omega) (by decide) dX4_init_92 (fun H locs c9 oq hS => ?_)
  have hI := jv_skip hI h0_x_1 oq
  have c_a0 := c_a0.kept (oq _ (Ne.symm hne_x_1_a0))
  have c_x_2 := c_x_2.kept (oq _ hne_x_2_x_1)
  have co_40 := co_40.kept (oq _ (kn_ne0 g_x_38 h0_x_1 (show (30 : Nat) ≠ 0 by decide)))
  obtain ⟨f_41, ef_41⟩ : ∃ f9 : Nat → Option Nat, f9 = va_up f_33 (Int.toNat 4) (some x_38) := ⟨_, rfl⟩
  rw [← ef_41] at c9
  have c_x_1 := c9
  clear oq c9
  refine lv_aload_n hx hb dX4_init_93 rfl (lv_at hl 1 rfl) ?_
  refine iz_get (D := (dC, dI)) (ci := 4) (v := .ref x_2) (C := RX4) (T := TX4) (N := 10) hx hb hts hinX4 hown hK c_a0 rfl 5 (by decide) hL32 (fun _ h9 => h9) rfl dX4_init_94 ?_
  refine lv_iload_n hx hb dX4_init_97 rfl (lv_at hl 0 rfl) ?_
  have hzH : n0 ≤ H.size := by have h8 := hS.1; omega
  refine jz_new (ci := 5) (fs := [.null, .int (kz 0), .int (kz 0), .int (kz 0), .int (kz 0), .int (kz 0)]) (C := RX5) (T := TX5) (N := 6) hx hb hts (by decide +kernel) tyX5 tyX5_ok hown (hts (.classLink RX4 22 RX5) (by decide +kernel)) (hts (.instantiable RX5 6) (by decide +kernel)) (hts (.initialized RX5) (by decide +kernel)) hK hS rfl (fun j hj => by rcases (show j = 0 ∨ j = 1 ∨ j = 2 ∨ j = 3 ∨ j = 4 ∨ j = 5 by omega) with rfl | rfl | rfl | rfl | rfl | rfl <;> rfl) (Nat.le_of_ble_eq_true rfl) (Nat.le_of_ble_eq_true rfl) dX4_init_98 (fun x_42 H hx9 c_x_42 oq hz9 hS => ?_)
  have h0_x_42 : (X.1 x_42).2.1 = 0 := jv_out hI (by omega)
  have hge_x_42 : n0 ≤ x_42 := by omega
  have hne_x_42_a0 : x_42 ≠ a0 := by have h9 := c_a0.lt; omega
  have hne_x_42_x_1 : x_42 ≠ x_1 := by have h9 := c_x_1.lt; omega
  have hne_x_42_x_2 : x_42 ≠ x_2 := by have h9 := c_x_2.lt; omega
  have c_a0 := c_a0.kept (oq _ c_a0.lt)
  have c_x_1 := c_x_1.kept (oq _ c_x_1.lt)
  have c_x_2 := c_x_2.kept (oq _ c_x_2.lt)
  have hI := jv_keep hI (fun q hq => oq q (jv_lt hI hq))
  clear oq hz9 hx9
  refine lv_dup hx hb dX4_init_101 rfl ?_
  have hzH : n0 ≤ H.size := by have h8 := hS.1; omega
  have hxl := c_x_42.lt
  refine va_callv (va_runIN (As := []) (rest := [.ref x_42, .int (kz 4), .ref x_2]) ⟨hx, hb, hml, hown, hts⟩ (k_Path l dC dI ca X hU x_42 H.size (12 : Nat) h0_x_42 (fidL_no hfid (by decide) (by decide)) (fidL_no hfid (by decide) (by decide)) (fidL_no hfid (by decide) (by decide)) (fidL_no hfid (by decide) (by decide))) ⟨va_cnB 0 hts gX4_init_X5_init_n55 rfl rfl rfl (jN_X4_55 hN) (hts (.initialized RX5) (by decide +kernel)) (by decide +kernel) ⟨Nat.le_of_ble_eq_true rfl, Nat.le_of_ble_eq_true rfl⟩, rfl, (hts (.instanceMethod yX5_init) (by decide +kernel))⟩ ⟨fun a U g mk q => by obtain ⟨q0, q1, ⟨qK, qN⟩, qI⟩ := q; exact ⟨q0, q1, ⟨va_K.moved (u := U) (U := U.calling g mk a) (Vm.Alike.refl U.vm) qK, jN_same (U := U.calling g mk a) rfl qN⟩, qI⟩, fun U hU9 hW => ⟨rfl, by rw [hU9], jK_warm hW ⟨hK, hN⟩, by rw [hU9]; exact ⟨jv_A2 hI (fun _ _ => trivial), c_x_42⟩⟩⟩ rfl rfl hl.1 rfl (lv_room (Nat.le_of_ble_eq_true rfl)) dX4_init_102 ⟨(Nat.le_of_ble_eq_true rfl), (Nat.le_of_ble_eq_true rfl)⟩) hS (fun q h8 h9 => h9.elim (fun e9 => by rw [e9]; exact (hA _ hge_x_42)) (fun e9 => absurd e9 (by omega))) (fun q h9 => h9.elim (fun e9 => by rw [e9]; exact (hA _ hge_x_42)) (fun e9 => hA q (by omega))) (fun X t9 H locs ht hvm hw_43 hB hz1 hk1 hS => ?_)
  obtain ⟨hw_43, hw_43g, hU⟩ := hw_43
  obtain ⟨-, hI⟩ := hB
  rw [ht] at hI
  clear ht hvm
  have hle9 := nw_le hw_43
  have h9 := c_a0.lt
  have c_a0 := c_a0.kept (hk1 _ h9 (fun e9 => e9.elim (Ne.symm hne_x_42_a0) (fun e8 => absurd e8 (by omega))))
  have h8_a0 := nw_0 hw_43 h0_a0 (Ne.symm hne_x_42_a0) h9
  have h9 := c_x_1.lt
  have c_x_1 := c_x_1.kept (hk1 _ h9 (fun e9 => e9.elim (Ne.symm hne_x_42_x_1) (fun e8 => absurd e8 (by omega))))
  have h8_x_1 := nw_0 hw_43 h0_x_1 (Ne.symm hne_x_42_x_1) h9
  have h9 := c_x_2.lt
  have c_x_2 := c_x_2.kept (hk1 _ h9 (fun e9 => e9.elim (Ne.symm hne_x_42_x_2) (fun e8 => absurd e8 (by omega))))
  have h8_x_2 := nw_0 hw_43 h0_x_2 (Ne.symm hne_x_42_x_2) h9
  have h0_a0 := h8_a0
  have h0_x_1 := h8_x_1
  have h0_x_2 := h8_x_2
  have hno_4 := nw_no hw_43 hno_4 (by decide +kernel)
  have hno_226 := nw_no hw_43 hno_226 (by decide +kernel)
  have hno_227 := nw_no hw_43 hno_227 (by decide +kernel)
  have hJ := nw_tr hJ hw_43 (Or.inr hge_x_42) hzH (by decide +kernel)
  have hfid : fidL X [5, 6, 7, 13, 14, 15] := fidL_nw hw_43 hfid (by decide) (fun t ht => by rw [Lp_fid _ t ht]; decide)
  have g_tg := le_t hle9 g_tg (show (30 : Nat) ≠ 0 by decide)
  have g_x_3 := le_t hle9 g_x_3 (show (20 : Nat) ≠ 0 by decide)
  have g_x_4 := le_t hle9 g_x_4 (show (30 : Nat) ≠ 0 by decide)
  have g_x_6 := le_t hle9 g_x_6 (show (30 : Nat) ≠ 0 by decide)
  have g_x_10 := le_t hle9 g_x_10 (show (30 : Nat) ≠ 0 by decide)
  have g_x_14 := le_t hle9 g_x_14 (show (30 : Nat) ≠ 0 by decide)
  have g_x_18 := le_t hle9 g_x_18 (show (30 : Nat) ≠ 0 by decide)
  have g_x_22 := le_t hle9 g_x_22 (show (30 : Nat) ≠ 0 by decide)
  have g_x_26 := le_t hle9 g_x_26 (show (30 : Nat) ≠ 0 by decide)
  have g_x_30 := le_t hle9 g_x_30 (show (30 : Nat) ≠ 0 by decide)
  have g_x_34 := le_t hle9 g_x_34 (show (30 : Nat) ≠ 0 by decide)
  have g_x_38 := le_t hle9 g_x_38 (show (30 : Nat) ≠ 0 by decide)
  clear hle9 hxl hk1 hz1
  have g_x_42 := hw_43g
  obtain ⟨fs9, co_44, jo9⟩ := jv_o5 hI g_x_42
  obtain ⟨chain_44, cost_44, spent_44, place_44, ended_44, rank_44, rfl, g_chain_44, ⟨cost_44a, cost_44b⟩, ⟨spent_44a, spent_44b⟩, ⟨place_44a, place_44b⟩, ⟨ended_44a, ended_44b⟩, ⟨rank_44a, rank_44b⟩⟩ := jo9
  refine jz_aast hx hb hK 6 5 c_x_2 co_44 rfl rfl hS (hA _ hge_x_2) (by omega) (by decide) dX4_init_105 (fun H locs c9 oq hS => ?_)
  have hI := jv_skip hI h0_x_2 oq
  have c_a0 := c_a0.kept (oq _ (Ne.symm hne_x_2_a0))
  have c_x_1 := c_x_1.kept (oq _ (Ne.symm hne_x_2_x_1))
  have co_44 := co_44.kept (oq _ (kn_ne0 g_x_42 h0_x_2 (show (30 : Nat) ≠ 0 by decide)))
  obtain ⟨f_45, ef_45⟩ : ∃ f9 : Nat → Option Nat, f9 = va_up f_37 (Int.toNat 4) (some x_42) := ⟨_, rfl⟩
  rw [← ef_45] at c9
  have c_x_2 := c9
  clear oq c9
  refine lv_iinc (v := kz 5) (lv' := [(2, .int (kz 5)), (0, .ref a0), (1, .ref tg)]) hx hb dX4_init_106 hl (k := 0) rfl (by decide) (by decide) rfl (fun ls hl => ?_)
  refine lv_goto (tgt := 74) hx hb dX4_init_109 (by decide) ?_
  refine lv_iload_n hx hb dX4_init_74 rfl (lv_at hl 0 rfl) ?_
  refine lv_bipush (v := kz 8) hx hb dX4_init_75 (by decide) ?_
  refine iz_ge (tgt := 112) hx hb dX4_init_77 (by decide) (by unfold rg2; omega) (fun q9 => absurd q9 (by decide)) (fun _ => ?_)
  refine lv_aload_n hx hb dX4_init_80 rfl (lv_at hl 1 rfl) ?_
  refine iz_get (D := (dC, dI)) (ci := 4) (v := .ref x_1) (C := RX4) (T := TX4) (N := 10) hx hb hts hinX4 hown hK c_a0 rfl 3 (by decide) hL24 (fun _ h9 => h9) rfl dX4_init_81 ?_
  refine lv_iload_n hx hb dX4_init_84 rfl (lv_at hl 0 rfl) ?_
  have hzH : n0 ≤ H.size := by have h8 := hS.1; omega
  refine jz_new (ci := 5) (fs := [.null, .int (kz 0), .int (kz 0), .int (kz 0), .int (kz 0), .int (kz 0)]) (C := RX5) (T := TX5) (N := 6) hx hb hts (by decide +kernel) tyX5 tyX5_ok hown (hts (.classLink RX4 22 RX5) (by decide +kernel)) (hts (.instantiable RX5 6) (by decide +kernel)) (hts (.initialized RX5) (by decide +kernel)) hK hS rfl (fun j hj => by rcases (show j = 0 ∨ j = 1 ∨ j = 2 ∨ j = 3 ∨ j = 4 ∨ j = 5 by omega) with rfl | rfl | rfl | rfl | rfl | rfl <;> rfl) (Nat.le_of_ble_eq_true rfl) (Nat.le_of_ble_eq_true rfl) dX4_init_85 (fun x_46 H hx9 c_x_46 oq hz9 hS => ?_)
  have h0_x_46 : (X.1 x_46).2.1 = 0 := jv_out hI (by omega)
  have hge_x_46 : n0 ≤ x_46 := by omega
  have hne_x_46_a0 : x_46 ≠ a0 := by have h9 := c_a0.lt; omega
  have hne_x_46_x_1 : x_46 ≠ x_1 := by have h9 := c_x_1.lt; omega
  have hne_x_46_x_2 : x_46 ≠ x_2 := by have h9 := c_x_2.lt; omega
  have c_a0 := c_a0.kept (oq _ c_a0.lt)
  have c_x_1 := c_x_1.kept (oq _ c_x_1.lt)
  have c_x_2 := c_x_2.kept (oq _ c_x_2.lt)
  have hI := jv_keep hI (fun q hq => oq q (jv_lt hI hq))
  clear oq hz9 hx9
  refine lv_dup hx hb dX4_init_88 rfl ?_
  have hzH : n0 ≤ H.size := by have h8 := hS.1; omega
  have hxl := c_x_46.lt
  refine va_callv (va_runIN (As := []) (rest := [.ref x_46, .int (kz 5), .ref x_1]) ⟨hx, hb, hml, hown, hts⟩ (k_Path l dC dI ca X hU x_46 H.size (5 : Nat) h0_x_46 (fidL_no hfid (by decide) (by decide)) (fidL_no hfid (by decide) (by decide)) (fidL_no hfid (by decide) (by decide)) (fidL_no hfid (by decide) (by decide))) ⟨va_cnB 0 hts gX4_init_X5_init_n55 rfl rfl rfl (jN_X4_55 hN) (hts (.initialized RX5) (by decide +kernel)) (by decide +kernel) ⟨Nat.le_of_ble_eq_true rfl, Nat.le_of_ble_eq_true rfl⟩, rfl, (hts (.instanceMethod yX5_init) (by decide +kernel))⟩ ⟨fun a U g mk q => by obtain ⟨q0, q1, ⟨qK, qN⟩, qI⟩ := q; exact ⟨q0, q1, ⟨va_K.moved (u := U) (U := U.calling g mk a) (Vm.Alike.refl U.vm) qK, jN_same (U := U.calling g mk a) rfl qN⟩, qI⟩, fun U hU9 hW => ⟨rfl, by rw [hU9], jK_warm hW ⟨hK, hN⟩, by rw [hU9]; exact ⟨jv_A2 hI (fun _ _ => trivial), c_x_46⟩⟩⟩ rfl rfl hl.1 rfl (lv_room (Nat.le_of_ble_eq_true rfl)) dX4_init_89 ⟨(Nat.le_of_ble_eq_true rfl), (Nat.le_of_ble_eq_true rfl)⟩) hS (fun q h8 h9 => h9.elim (fun e9 => by rw [e9]; exact (hA _ hge_x_46)) (fun e9 => absurd e9 (by omega))) (fun q h9 => h9.elim (fun e9 => by rw [e9]; exact (hA _ hge_x_46)) (fun e9 => hA q (by omega))) (fun X t9 H locs ht hvm hw_47 hB hz1 hk1 hS => ?_)
  obtain ⟨hw_47, hw_47g, hU⟩ := hw_47
  obtain ⟨-, hI⟩ := hB
  rw [ht] at hI
  clear ht hvm
  have hle9 := nw_le hw_47
  have h9 := c_a0.lt
  have c_a0 := c_a0.kept (hk1 _ h9 (fun e9 => e9.elim (Ne.symm hne_x_46_a0) (fun e8 => absurd e8 (by omega))))
  have h8_a0 := nw_0 hw_47 h0_a0 (Ne.symm hne_x_46_a0) h9
  have h9 := c_x_1.lt
  have c_x_1 := c_x_1.kept (hk1 _ h9 (fun e9 => e9.elim (Ne.symm hne_x_46_x_1) (fun e8 => absurd e8 (by omega))))
  have h8_x_1 := nw_0 hw_47 h0_x_1 (Ne.symm hne_x_46_x_1) h9
  have h9 := c_x_2.lt
  have c_x_2 := c_x_2.kept (hk1 _ h9 (fun e9 => e9.elim (Ne.symm hne_x_46_x_2) (fun e8 => absurd e8 (by omega))))
  have h8_x_2 := nw_0 hw_47 h0_x_2 (Ne.symm hne_x_46_x_2) h9
  have h0_a0 := h8_a0
  have h0_x_1 := h8_x_1
  have h0_x_2 := h8_x_2
  have hno_4 := nw_no hw_47 hno_4 (by decide +kernel)
  have hno_226 := nw_no hw_47 hno_226 (by decide +kernel)
  have hno_227 := nw_no hw_47 hno_227 (by decide +kernel)
  have hJ := nw_tr hJ hw_47 (Or.inr hge_x_46) hzH (by decide +kernel)
  have hfid : fidL X [6, 7, 13, 14, 15] := fidL_nw hw_47 hfid (by decide) (fun t ht => by rw [Lp_fid _ t ht]; decide)
  have g_tg := le_t hle9 g_tg (show (30 : Nat) ≠ 0 by decide)
  have g_x_3 := le_t hle9 g_x_3 (show (20 : Nat) ≠ 0 by decide)
  have g_x_4 := le_t hle9 g_x_4 (show (30 : Nat) ≠ 0 by decide)
  have g_x_6 := le_t hle9 g_x_6 (show (30 : Nat) ≠ 0 by decide)
  have g_x_10 := le_t hle9 g_x_10 (show (30 : Nat) ≠ 0 by decide)
  have g_x_14 := le_t hle9 g_x_14 (show (30 : Nat) ≠ 0 by decide)
  have g_x_18 := le_t hle9 g_x_18 (show (30 : Nat) ≠ 0 by decide)
  have g_x_22 := le_t hle9 g_x_22 (show (30 : Nat) ≠ 0 by decide)
  have g_x_26 := le_t hle9 g_x_26 (show (30 : Nat) ≠ 0 by decide)
  have g_x_30 := le_t hle9 g_x_30 (show (30 : Nat) ≠ 0 by decide)
  have g_x_34 := le_t hle9 g_x_34 (show (30 : Nat) ≠ 0 by decide)
  have g_x_38 := le_t hle9 g_x_38 (show (30 : Nat) ≠ 0 by decide)
  have g_x_42 := le_t hle9 g_x_42 (show (30 : Nat) ≠ 0 by decide)
  clear hle9 hxl hk1 hz1
  have g_x_46 := hw_47g
  obtain ⟨fs9, co_48, jo9⟩ := jv_o5 hI g_x_46
  obtain ⟨chain_48, cost_48, spent_48, place_48, ended_48, rank_48, rfl, g_chain_48, ⟨cost_48a, cost_48b⟩, ⟨spent_48a, spent_48b⟩, ⟨place_48a, place_48b⟩, ⟨ended_48a, ended_48b⟩, ⟨rank_48a, rank_48b⟩⟩ := jo9
  refine jz_aast hx hb hK 6 5 c_x_1 co_48 rfl rfl hS (hA _ hge_x_1) (by omega) (by decide) dX4_init_92 (fun H locs c9 oq hS => ?_)
  have hI := jv_skip hI h0_x_1 oq
  have c_a0 := c_a0.kept (oq _ (Ne.symm hne_x_1_a0))
  have c_x_2 := c_x_2.kept (oq _ hne_x_2_x_1)
  have co_48 := co_48.kept (oq _ (kn_ne0 g_x_46 h0_x_1 (show (30 : Nat) ≠ 0 by decide)))
  obtain ⟨f_49, ef_49⟩ : ∃ f9 : Nat → Option Nat, f9 = va_up f_41 (Int.toNat 5) (some x_46) := ⟨_, rfl⟩
  rw [← ef_49] at c9
  have c_x_1 := c9
  clear oq c9
  refine lv_aload_n hx hb dX4_init_93 rfl (lv_at hl 1 rfl) ?_
  refine iz_get (D := (dC, dI)) (ci := 4) (v := .ref x_2) (C := RX4) (T := TX4) (N := 10) hx hb hts hinX4 hown hK c_a0 rfl 5 (by decide) hL32 (fun _ h9 => h9) rfl dX4_init_94 ?_
  refine lv_iload_n hx hb dX4_init_97 rfl (lv_at hl 0 rfl) ?_
  have hzH : n0 ≤ H.size := by have h8 := hS.1; omega
  refine jz_new (ci := 5) (fs := [.null, .int (kz 0), .int (kz 0), .int (kz 0), .int (kz 0), .int (kz 0)]) (C := RX5) (T := TX5) (N := 6) hx hb hts (by decide +kernel) tyX5 tyX5_ok hown (hts (.classLink RX4 22 RX5) (by decide +kernel)) (hts (.instantiable RX5 6) (by decide +kernel)) (hts (.initialized RX5) (by decide +kernel)) hK hS rfl (fun j hj => by rcases (show j = 0 ∨ j = 1 ∨ j = 2 ∨ j = 3 ∨ j = 4 ∨ j = 5 by omega) with rfl | rfl | rfl | rfl | rfl | rfl <;> rfl) (Nat.le_of_ble_eq_true rfl) (Nat.le_of_ble_eq_true rfl) dX4_init_98 (fun x_50 H hx9 c_x_50 oq hz9 hS => ?_)
  have h0_x_50 : (X.1 x_50).2.1 = 0 := jv_out hI (by omega)
  have hge_x_50 : n0 ≤ x_50 := by omega
  have hne_x_50_a0 : x_50 ≠ a0 := by have h9 := c_a0.lt; omega
  have hne_x_50_x_1 : x_50 ≠ x_1 := by have h9 := c_x_1.lt; omega
  have hne_x_50_x_2 : x_50 ≠ x_2 := by have h9 := c_x_2.lt; omega
  have c_a0 := c_a0.kept (oq _ c_a0.lt)
  have c_x_1 := c_x_1.kept (oq _ c_x_1.lt)
  have c_x_2 := c_x_2.kept (oq _ c_x_2.lt)
  have hI := jv_keep hI (fun q hq => oq q (jv_lt hI hq))
  clear oq hz9 hx9
  refine lv_dup hx hb dX4_init_101 rfl ?_
  have hzH : n0 ≤ H.size := by have h8 := hS.1; omega
  have hxl := c_x_50.lt
  refine va_callv (va_runIN (As := []) (rest := [.ref x_50, .int (kz 5), .ref x_2]) ⟨hx, hb, hml, hown, hts⟩ (k_Path l dC dI ca X hU x_50 H.size (13 : Nat) h0_x_50 (fidL_no hfid (by decide) (by decide)) (fidL_no hfid (by decide) (by decide)) (fidL_no hfid (by decide) (by decide)) (fidL_no hfid (by decide) (by decide))) ⟨va_cnB 0 hts gX4_init_X5_init_n55 rfl rfl rfl (jN_X4_55 hN) (hts (.initialized RX5) (by decide +kernel)) (by decide +kernel) ⟨Nat.le_of_ble_eq_true rfl, Nat.le_of_ble_eq_true rfl⟩, rfl, (hts (.instanceMethod yX5_init) (by decide +kernel))⟩ ⟨fun a U g mk q => by obtain ⟨q0, q1, ⟨qK, qN⟩, qI⟩ := q; exact ⟨q0, q1, ⟨va_K.moved (u := U) (U := U.calling g mk a) (Vm.Alike.refl U.vm) qK, jN_same (U := U.calling g mk a) rfl qN⟩, qI⟩, fun U hU9 hW => ⟨rfl, by rw [hU9], jK_warm hW ⟨hK, hN⟩, by rw [hU9]; exact ⟨jv_A2 hI (fun _ _ => trivial), c_x_50⟩⟩⟩ rfl rfl hl.1 rfl (lv_room (Nat.le_of_ble_eq_true rfl)) dX4_init_102 ⟨(Nat.le_of_ble_eq_true rfl), (Nat.le_of_ble_eq_true rfl)⟩) hS (fun q h8 h9 => h9.elim (fun e9 => by rw [e9]; exact (hA _ hge_x_50)) (fun e9 => absurd e9 (by omega))) (fun q h9 => h9.elim (fun e9 => by rw [e9]; exact (hA _ hge_x_50)) (fun e9 => hA q (by omega))) (fun X t9 H locs ht hvm hw_51 hB hz1 hk1 hS => ?_)
  obtain ⟨hw_51, hw_51g, hU⟩ := hw_51
  obtain ⟨-, hI⟩ := hB
  rw [ht] at hI
  clear ht hvm
  have hle9 := nw_le hw_51
  have h9 := c_a0.lt
  have c_a0 := c_a0.kept (hk1 _ h9 (fun e9 => e9.elim (Ne.symm hne_x_50_a0) (fun e8 => absurd e8 (by omega))))
  have h8_a0 := nw_0 hw_51 h0_a0 (Ne.symm hne_x_50_a0) h9
  have h9 := c_x_1.lt
  have c_x_1 := c_x_1.kept (hk1 _ h9 (fun e9 => e9.elim (Ne.symm hne_x_50_x_1) (fun e8 => absurd e8 (by omega))))
  have h8_x_1 := nw_0 hw_51 h0_x_1 (Ne.symm hne_x_50_x_1) h9
  have h9 := c_x_2.lt
  have c_x_2 := c_x_2.kept (hk1 _ h9 (fun e9 => e9.elim (Ne.symm hne_x_50_x_2) (fun e8 => absurd e8 (by omega))))
  have h8_x_2 := nw_0 hw_51 h0_x_2 (Ne.symm hne_x_50_x_2) h9
  have h0_a0 := h8_a0
  have h0_x_1 := h8_x_1
  have h0_x_2 := h8_x_2
  have hno_4 := nw_no hw_51 hno_4 (by decide +kernel)
  have hno_226 := nw_no hw_51 hno_226 (by decide +kernel)
  have hno_227 := nw_no hw_51 hno_227 (by decide +kernel)
  have hJ := nw_tr hJ hw_51 (Or.inr hge_x_50) hzH (by decide +kernel)
  have hfid : fidL X [6, 7, 14, 15] := fidL_nw hw_51 hfid (by decide) (fun t ht => by rw [Lp_fid _ t ht]; decide)
  have g_tg := le_t hle9 g_tg (show (30 : Nat) ≠ 0 by decide)
  have g_x_3 := le_t hle9 g_x_3 (show (20 : Nat) ≠ 0 by decide)
  have g_x_4 := le_t hle9 g_x_4 (show (30 : Nat) ≠ 0 by decide)
  have g_x_6 := le_t hle9 g_x_6 (show (30 : Nat) ≠ 0 by decide)
  have g_x_10 := le_t hle9 g_x_10 (show (30 : Nat) ≠ 0 by decide)
  have g_x_14 := le_t hle9 g_x_14 (show (30 : Nat) ≠ 0 by decide)
  have g_x_18 := le_t hle9 g_x_18 (show (30 : Nat) ≠ 0 by decide)
  have g_x_22 := le_t hle9 g_x_22 (show (30 : Nat) ≠ 0 by decide)
  have g_x_26 := le_t hle9 g_x_26 (show (30 : Nat) ≠ 0 by decide)
  have g_x_30 := le_t hle9 g_x_30 (show (30 : Nat) ≠ 0 by decide)
  have g_x_34 := le_t hle9 g_x_34 (show (30 : Nat) ≠ 0 by decide)
  have g_x_38 := le_t hle9 g_x_38 (show (30 : Nat) ≠ 0 by decide)
  have g_x_42 := le_t hle9 g_x_42 (show (30 : Nat) ≠ 0 by decide)
  have g_x_46 := le_t hle9 g_x_46 (show (30 : Nat) ≠ 0 by decide)
  clear hle9 hxl hk1 hz1
  have g_x_50 := hw_51g
  obtain ⟨fs9, co_52, jo9⟩ := jv_o5 hI g_x_50
  obtain ⟨chain_52, cost_52, spent_52, place_52, ended_52, rank_52, rfl, g_chain_52, ⟨cost_52a, cost_52b⟩, ⟨spent_52a, spent_52b⟩, ⟨place_52a, place_52b⟩, ⟨ended_52a, ended_52b⟩, ⟨rank_52a, rank_52b⟩⟩ := jo9
  refine jz_aast hx hb hK 6 5 c_x_2 co_52 rfl rfl hS (hA _ hge_x_2) (by omega) (by decide) dX4_init_105 (fun H locs c9 oq hS => ?_)
  have hI := jv_skip hI h0_x_2 oq
  have c_a0 := c_a0.kept (oq _ (Ne.symm hne_x_2_a0))
  have c_x_1 := c_x_1.kept (oq _ (Ne.symm hne_x_2_x_1))
  have co_52 := co_52.kept (oq _ (kn_ne0 g_x_50 h0_x_2 (show (30 : Nat) ≠ 0 by decide)))
  obtain ⟨f_53, ef_53⟩ : ∃ f9 : Nat → Option Nat, f9 = va_up f_45 (Int.toNat 5) (some x_50) := ⟨_, rfl⟩
  rw [← ef_53] at c9
  have c_x_2 := c9
  clear oq c9
  refine lv_iinc (v := kz 6) (lv' := [(2, .int (kz 6)), (0, .ref a0), (1, .ref tg)]) hx hb dX4_init_106 hl (k := 0) rfl (by decide) (by decide) rfl (fun ls hl => ?_)
  refine lv_goto (tgt := 74) hx hb dX4_init_109 (by decide) ?_
  refine lv_iload_n hx hb dX4_init_74 rfl (lv_at hl 0 rfl) ?_
  refine lv_bipush (v := kz 8) hx hb dX4_init_75 (by decide) ?_
  refine iz_ge (tgt := 112) hx hb dX4_init_77 (by decide) (by unfold rg2; omega) (fun q9 => absurd q9 (by decide)) (fun _ => ?_)
  refine lv_aload_n hx hb dX4_init_80 rfl (lv_at hl 1 rfl) ?_
  refine iz_get (D := (dC, dI)) (ci := 4) (v := .ref x_1) (C := RX4) (T := TX4) (N := 10) hx hb hts hinX4 hown hK c_a0 rfl 3 (by decide) hL24 (fun _ h9 => h9) rfl dX4_init_81 ?_
  refine lv_iload_n hx hb dX4_init_84 rfl (lv_at hl 0 rfl) ?_
  have hzH : n0 ≤ H.size := by have h8 := hS.1; omega
  refine jz_new (ci := 5) (fs := [.null, .int (kz 0), .int (kz 0), .int (kz 0), .int (kz 0), .int (kz 0)]) (C := RX5) (T := TX5) (N := 6) hx hb hts (by decide +kernel) tyX5 tyX5_ok hown (hts (.classLink RX4 22 RX5) (by decide +kernel)) (hts (.instantiable RX5 6) (by decide +kernel)) (hts (.initialized RX5) (by decide +kernel)) hK hS rfl (fun j hj => by rcases (show j = 0 ∨ j = 1 ∨ j = 2 ∨ j = 3 ∨ j = 4 ∨ j = 5 by omega) with rfl | rfl | rfl | rfl | rfl | rfl <;> rfl) (Nat.le_of_ble_eq_true rfl) (Nat.le_of_ble_eq_true rfl) dX4_init_85 (fun x_54 H hx9 c_x_54 oq hz9 hS => ?_)
  have h0_x_54 : (X.1 x_54).2.1 = 0 := jv_out hI (by omega)
  have hge_x_54 : n0 ≤ x_54 := by omega
  have hne_x_54_a0 : x_54 ≠ a0 := by have h9 := c_a0.lt; omega
  have hne_x_54_x_1 : x_54 ≠ x_1 := by have h9 := c_x_1.lt; omega
  have hne_x_54_x_2 : x_54 ≠ x_2 := by have h9 := c_x_2.lt; omega
  have c_a0 := c_a0.kept (oq _ c_a0.lt)
  have c_x_1 := c_x_1.kept (oq _ c_x_1.lt)
  have c_x_2 := c_x_2.kept (oq _ c_x_2.lt)
  have hI := jv_keep hI (fun q hq => oq q (jv_lt hI hq))
  clear oq hz9 hx9
  refine lv_dup hx hb dX4_init_88 rfl ?_
  have hzH : n0 ≤ H.size := by have h8 := hS.1; omega
  have hxl := c_x_54.lt
  refine va_callv (va_runIN (As := []) (rest := [.ref x_54, .int (kz 6), .ref x_1]) ⟨hx, hb, hml, hown, hts⟩ (k_Path l dC dI ca X hU x_54 H.size (6 : Nat) h0_x_54 (fidL_no hfid (by decide) (by decide)) (fidL_no hfid (by decide) (by decide)) (fidL_no hfid (by decide) (by decide)) (fidL_no hfid (by decide) (by decide))) ⟨va_cnB 0 hts gX4_init_X5_init_n55 rfl rfl rfl (jN_X4_55 hN) (hts (.initialized RX5) (by decide +kernel)) (by decide +kernel) ⟨Nat.le_of_ble_eq_true rfl, Nat.le_of_ble_eq_true rfl⟩, rfl, (hts (.instanceMethod yX5_init) (by decide +kernel))⟩ ⟨fun a U g mk q => by obtain ⟨q0, q1, ⟨qK, qN⟩, qI⟩ := q; exact ⟨q0, q1, ⟨va_K.moved (u := U) (U := U.calling g mk a) (Vm.Alike.refl U.vm) qK, jN_same (U := U.calling g mk a) rfl qN⟩, qI⟩, fun U hU9 hW => ⟨rfl, by rw [hU9], jK_warm hW ⟨hK, hN⟩, by rw [hU9]; exact ⟨jv_A2 hI (fun _ _ => trivial), c_x_54⟩⟩⟩ rfl rfl hl.1 rfl (lv_room (Nat.le_of_ble_eq_true rfl)) dX4_init_89 ⟨(Nat.le_of_ble_eq_true rfl), (Nat.le_of_ble_eq_true rfl)⟩) hS (fun q h8 h9 => h9.elim (fun e9 => by rw [e9]; exact (hA _ hge_x_54)) (fun e9 => absurd e9 (by omega))) (fun q h9 => h9.elim (fun e9 => by rw [e9]; exact (hA _ hge_x_54)) (fun e9 => hA q (by omega))) (fun X t9 H locs ht hvm hw_55 hB hz1 hk1 hS => ?_)
  obtain ⟨hw_55, hw_55g, hU⟩ := hw_55
  obtain ⟨-, hI⟩ := hB
  rw [ht] at hI
  clear ht hvm
  have hle9 := nw_le hw_55
  have h9 := c_a0.lt
  have c_a0 := c_a0.kept (hk1 _ h9 (fun e9 => e9.elim (Ne.symm hne_x_54_a0) (fun e8 => absurd e8 (by omega))))
  have h8_a0 := nw_0 hw_55 h0_a0 (Ne.symm hne_x_54_a0) h9
  have h9 := c_x_1.lt
  have c_x_1 := c_x_1.kept (hk1 _ h9 (fun e9 => e9.elim (Ne.symm hne_x_54_x_1) (fun e8 => absurd e8 (by omega))))
  have h8_x_1 := nw_0 hw_55 h0_x_1 (Ne.symm hne_x_54_x_1) h9
  have h9 := c_x_2.lt
  have c_x_2 := c_x_2.kept (hk1 _ h9 (fun e9 => e9.elim (Ne.symm hne_x_54_x_2) (fun e8 => absurd e8 (by omega))))
  have h8_x_2 := nw_0 hw_55 h0_x_2 (Ne.symm hne_x_54_x_2) h9
  have h0_a0 := h8_a0
  have h0_x_1 := h8_x_1
  have h0_x_2 := h8_x_2
  have hno_4 := nw_no hw_55 hno_4 (by decide +kernel)
  have hno_226 := nw_no hw_55 hno_226 (by decide +kernel)
  have hno_227 := nw_no hw_55 hno_227 (by decide +kernel)
  have hJ := nw_tr hJ hw_55 (Or.inr hge_x_54) hzH (by decide +kernel)
  have hfid : fidL X [7, 14, 15] := fidL_nw hw_55 hfid (by decide) (fun t ht => by rw [Lp_fid _ t ht]; decide)
  have g_tg := le_t hle9 g_tg (show (30 : Nat) ≠ 0 by decide)
  have g_x_3 := le_t hle9 g_x_3 (show (20 : Nat) ≠ 0 by decide)
  have g_x_4 := le_t hle9 g_x_4 (show (30 : Nat) ≠ 0 by decide)
  have g_x_6 := le_t hle9 g_x_6 (show (30 : Nat) ≠ 0 by decide)
  have g_x_10 := le_t hle9 g_x_10 (show (30 : Nat) ≠ 0 by decide)
  have g_x_14 := le_t hle9 g_x_14 (show (30 : Nat) ≠ 0 by decide)
  have g_x_18 := le_t hle9 g_x_18 (show (30 : Nat) ≠ 0 by decide)
  have g_x_22 := le_t hle9 g_x_22 (show (30 : Nat) ≠ 0 by decide)
  have g_x_26 := le_t hle9 g_x_26 (show (30 : Nat) ≠ 0 by decide)
  have g_x_30 := le_t hle9 g_x_30 (show (30 : Nat) ≠ 0 by decide)
  have g_x_34 := le_t hle9 g_x_34 (show (30 : Nat) ≠ 0 by decide)
  have g_x_38 := le_t hle9 g_x_38 (show (30 : Nat) ≠ 0 by decide)
  have g_x_42 := le_t hle9 g_x_42 (show (30 : Nat) ≠ 0 by decide)
  have g_x_46 := le_t hle9 g_x_46 (show (30 : Nat) ≠ 0 by decide)
  have g_x_50 := le_t hle9 g_x_50 (show (30 : Nat) ≠ 0 by decide)
  clear hle9 hxl hk1 hz1
  have g_x_54 := hw_55g
  obtain ⟨fs9, co_56, jo9⟩ := jv_o5 hI g_x_54
  obtain ⟨chain_56, cost_56, spent_56, place_56, ended_56, rank_56, rfl, g_chain_56, ⟨cost_56a, cost_56b⟩, ⟨spent_56a, spent_56b⟩, ⟨place_56a, place_56b⟩, ⟨ended_56a, ended_56b⟩, ⟨rank_56a, rank_56b⟩⟩ := jo9
  refine jz_aast hx hb hK 6 5 c_x_1 co_56 rfl rfl hS (hA _ hge_x_1) (by omega) (by decide) dX4_init_92 (fun H locs c9 oq hS => ?_)
  have hI := jv_skip hI h0_x_1 oq
  have c_a0 := c_a0.kept (oq _ (Ne.symm hne_x_1_a0))
  have c_x_2 := c_x_2.kept (oq _ hne_x_2_x_1)
  have co_56 := co_56.kept (oq _ (kn_ne0 g_x_54 h0_x_1 (show (30 : Nat) ≠ 0 by decide)))
  obtain ⟨f_57, ef_57⟩ : ∃ f9 : Nat → Option Nat, f9 = va_up f_49 (Int.toNat 6) (some x_54) := ⟨_, rfl⟩
  rw [← ef_57] at c9
  have c_x_1 := c9
  clear oq c9
  refine lv_aload_n hx hb dX4_init_93 rfl (lv_at hl 1 rfl) ?_
  refine iz_get (D := (dC, dI)) (ci := 4) (v := .ref x_2) (C := RX4) (T := TX4) (N := 10) hx hb hts hinX4 hown hK c_a0 rfl 5 (by decide) hL32 (fun _ h9 => h9) rfl dX4_init_94 ?_
  refine lv_iload_n hx hb dX4_init_97 rfl (lv_at hl 0 rfl) ?_
  have hzH : n0 ≤ H.size := by have h8 := hS.1; omega
  refine jz_new (ci := 5) (fs := [.null, .int (kz 0), .int (kz 0), .int (kz 0), .int (kz 0), .int (kz 0)]) (C := RX5) (T := TX5) (N := 6) hx hb hts (by decide +kernel) tyX5 tyX5_ok hown (hts (.classLink RX4 22 RX5) (by decide +kernel)) (hts (.instantiable RX5 6) (by decide +kernel)) (hts (.initialized RX5) (by decide +kernel)) hK hS rfl (fun j hj => by rcases (show j = 0 ∨ j = 1 ∨ j = 2 ∨ j = 3 ∨ j = 4 ∨ j = 5 by omega) with rfl | rfl | rfl | rfl | rfl | rfl <;> rfl) (Nat.le_of_ble_eq_true rfl) (Nat.le_of_ble_eq_true rfl) dX4_init_98 (fun x_58 H hx9 c_x_58 oq hz9 hS => ?_)
  have h0_x_58 : (X.1 x_58).2.1 = 0 := jv_out hI (by omega)
  have hge_x_58 : n0 ≤ x_58 := by omega
  have hne_x_58_a0 : x_58 ≠ a0 := by have h9 := c_a0.lt; omega
  have hne_x_58_x_1 : x_58 ≠ x_1 := by have h9 := c_x_1.lt; omega
  have hne_x_58_x_2 : x_58 ≠ x_2 := by have h9 := c_x_2.lt; omega
  have c_a0 := c_a0.kept (oq _ c_a0.lt)
  have c_x_1 := c_x_1.kept (oq _ c_x_1.lt)
  have c_x_2 := c_x_2.kept (oq _ c_x_2.lt)
  have hI := jv_keep hI (fun q hq => oq q (jv_lt hI hq))
  clear oq hz9 hx9
  refine lv_dup hx hb dX4_init_101 rfl ?_
  have hzH : n0 ≤ H.size := by have h8 := hS.1; omega
  have hxl := c_x_58.lt
  refine va_callv (va_runIN (As := []) (rest := [.ref x_58, .int (kz 6), .ref x_2]) ⟨hx, hb, hml, hown, hts⟩ (k_Path l dC dI ca X hU x_58 H.size (14 : Nat) h0_x_58 (fidL_no hfid (by decide) (by decide)) (fidL_no hfid (by decide) (by decide)) (fidL_no hfid (by decide) (by decide)) (fidL_no hfid (by decide) (by decide))) ⟨va_cnB 0 hts gX4_init_X5_init_n55 rfl rfl rfl (jN_X4_55 hN) (hts (.initialized RX5) (by decide +kernel)) (by decide +kernel) ⟨Nat.le_of_ble_eq_true rfl, Nat.le_of_ble_eq_true rfl⟩, rfl, (hts (.instanceMethod yX5_init) (by decide +kernel))⟩ ⟨fun a U g mk q => by obtain ⟨q0, q1, ⟨qK, qN⟩, qI⟩ := q; exact ⟨q0, q1, ⟨va_K.moved (u := U) (U := U.calling g mk a) (Vm.Alike.refl U.vm) qK, jN_same (U := U.calling g mk a) rfl qN⟩, qI⟩, fun U hU9 hW => ⟨rfl, by rw [hU9], jK_warm hW ⟨hK, hN⟩, by rw [hU9]; exact ⟨jv_A2 hI (fun _ _ => trivial), c_x_58⟩⟩⟩ rfl rfl hl.1 rfl (lv_room (Nat.le_of_ble_eq_true rfl)) dX4_init_102 ⟨(Nat.le_of_ble_eq_true rfl), (Nat.le_of_ble_eq_true rfl)⟩) hS (fun q h8 h9 => h9.elim (fun e9 => by rw [e9]; exact (hA _ hge_x_58)) (fun e9 => absurd e9 (by omega))) (fun q h9 => h9.elim (fun e9 => by rw [e9]; exact (hA _ hge_x_58)) (fun e9 => hA q (by omega))) (fun X t9 H locs ht hvm hw_59 hB hz1 hk1 hS => ?_)
  obtain ⟨hw_59, hw_59g, hU⟩ := hw_59
  obtain ⟨-, hI⟩ := hB
  rw [ht] at hI
  clear ht hvm
  have hle9 := nw_le hw_59
  have h9 := c_a0.lt
  have c_a0 := c_a0.kept (hk1 _ h9 (fun e9 => e9.elim (Ne.symm hne_x_58_a0) (fun e8 => absurd e8 (by omega))))
  have h8_a0 := nw_0 hw_59 h0_a0 (Ne.symm hne_x_58_a0) h9
  have h9 := c_x_1.lt
  have c_x_1 := c_x_1.kept (hk1 _ h9 (fun e9 => e9.elim (Ne.symm hne_x_58_x_1) (fun e8 => absurd e8 (by omega))))
  have h8_x_1 := nw_0 hw_59 h0_x_1 (Ne.symm hne_x_58_x_1) h9
  have h9 := c_x_2.lt
  have c_x_2 := c_x_2.kept (hk1 _ h9 (fun e9 => e9.elim (Ne.symm hne_x_58_x_2) (fun e8 => absurd e8 (by omega))))
  have h8_x_2 := nw_0 hw_59 h0_x_2 (Ne.symm hne_x_58_x_2) h9
  have h0_a0 := h8_a0
  have h0_x_1 := h8_x_1
  have h0_x_2 := h8_x_2
  have hno_4 := nw_no hw_59 hno_4 (by decide +kernel)
  have hno_226 := nw_no hw_59 hno_226 (by decide +kernel)
  have hno_227 := nw_no hw_59 hno_227 (by decide +kernel)
  have hJ := nw_tr hJ hw_59 (Or.inr hge_x_58) hzH (by decide +kernel)
  have hfid : fidL X [7, 15] := fidL_nw hw_59 hfid (by decide) (fun t ht => by rw [Lp_fid _ t ht]; decide)
  have g_tg := le_t hle9 g_tg (show (30 : Nat) ≠ 0 by decide)
  have g_x_3 := le_t hle9 g_x_3 (show (20 : Nat) ≠ 0 by decide)
  have g_x_4 := le_t hle9 g_x_4 (show (30 : Nat) ≠ 0 by decide)
  have g_x_6 := le_t hle9 g_x_6 (show (30 : Nat) ≠ 0 by decide)
  have g_x_10 := le_t hle9 g_x_10 (show (30 : Nat) ≠ 0 by decide)
  have g_x_14 := le_t hle9 g_x_14 (show (30 : Nat) ≠ 0 by decide)
  have g_x_18 := le_t hle9 g_x_18 (show (30 : Nat) ≠ 0 by decide)
  have g_x_22 := le_t hle9 g_x_22 (show (30 : Nat) ≠ 0 by decide)
  have g_x_26 := le_t hle9 g_x_26 (show (30 : Nat) ≠ 0 by decide)
  have g_x_30 := le_t hle9 g_x_30 (show (30 : Nat) ≠ 0 by decide)
  have g_x_34 := le_t hle9 g_x_34 (show (30 : Nat) ≠ 0 by decide)
  have g_x_38 := le_t hle9 g_x_38 (show (30 : Nat) ≠ 0 by decide)
  have g_x_42 := le_t hle9 g_x_42 (show (30 : Nat) ≠ 0 by decide)
  have g_x_46 := le_t hle9 g_x_46 (show (30 : Nat) ≠ 0 by decide)
  have g_x_50 := le_t hle9 g_x_50 (show (30 : Nat) ≠ 0 by decide)
  have g_x_54 := le_t hle9 g_x_54 (show (30 : Nat) ≠ 0 by decide)
  clear hle9 hxl hk1 hz1
  have g_x_58 := hw_59g
  obtain ⟨fs9, co_60, jo9⟩ := jv_o5 hI g_x_58
  obtain ⟨chain_60, cost_60, spent_60, place_60, ended_60, rank_60, rfl, g_chain_60, ⟨cost_60a, cost_60b⟩, ⟨spent_60a, spent_60b⟩, ⟨place_60a, place_60b⟩, ⟨ended_60a, ended_60b⟩, ⟨rank_60a, rank_60b⟩⟩ := jo9
  refine jz_aast hx hb hK 6 5 c_x_2 co_60 rfl rfl hS (hA _ hge_x_2) (by omega) (by decide) dX4_init_105 (fun H locs c9 oq hS => ?_)
  have hI := jv_skip hI h0_x_2 oq
  have c_a0 := c_a0.kept (oq _ (Ne.symm hne_x_2_a0))
  have c_x_1 := c_x_1.kept (oq _ (Ne.symm hne_x_2_x_1))
  have co_60 := co_60.kept (oq _ (kn_ne0 g_x_58 h0_x_2 (show (30 : Nat) ≠ 0 by decide)))
  obtain ⟨f_61, ef_61⟩ : ∃ f9 : Nat → Option Nat, f9 = va_up f_53 (Int.toNat 6) (some x_58) := ⟨_, rfl⟩
  rw [← ef_61] at c9
  have c_x_2 := c9
  clear oq c9
  refine lv_iinc (v := kz 7) (lv' := [(2, .int (kz 7)), (0, .ref a0), (1, .ref tg)]) hx hb dX4_init_106 hl (k := 0) rfl (by decide) (by decide) rfl (fun ls hl => ?_)
  refine lv_goto (tgt := 74) hx hb dX4_init_109 (by decide) ?_
  refine lv_iload_n hx hb dX4_init_74 rfl (lv_at hl 0 rfl) ?_
  refine lv_bipush (v := kz 8) hx hb dX4_init_75 (by decide) ?_
  refine iz_ge (tgt := 112) hx hb dX4_init_77 (by decide) (by unfold rg2; omega) (fun q9 => absurd q9 (by decide)) (fun _ => ?_)
  refine lv_aload_n hx hb dX4_init_80 rfl (lv_at hl 1 rfl) ?_
  refine iz_get (D := (dC, dI)) (ci := 4) (v := .ref x_1) (C := RX4) (T := TX4) (N := 10) hx hb hts hinX4 hown hK c_a0 rfl 3 (by decide) hL24 (fun _ h9 => h9) rfl dX4_init_81 ?_
  refine lv_iload_n hx hb dX4_init_84 rfl (lv_at hl 0 rfl) ?_
  have hzH : n0 ≤ H.size := by have h8 := hS.1; omega
  refine jz_new (ci := 5) (fs := [.null, .int (kz 0), .int (kz 0), .int (kz 0), .int (kz 0), .int (kz 0)]) (C := RX5) (T := TX5) (N := 6) hx hb hts (by decide +kernel) tyX5 tyX5_ok hown (hts (.classLink RX4 22 RX5) (by decide +kernel)) (hts (.instantiable RX5 6) (by decide +kernel)) (hts (.initialized RX5) (by decide +kernel)) hK hS rfl (fun j hj => by rcases (show j = 0 ∨ j = 1 ∨ j = 2 ∨ j = 3 ∨ j = 4 ∨ j = 5 by omega) with rfl | rfl | rfl | rfl | rfl | rfl <;> rfl) (Nat.le_of_ble_eq_true rfl) (Nat.le_of_ble_eq_true rfl) dX4_init_85 (fun x_62 H hx9 c_x_62 oq hz9 hS => ?_)
  have h0_x_62 : (X.1 x_62).2.1 = 0 := jv_out hI (by omega)
  have hge_x_62 : n0 ≤ x_62 := by omega
  have hne_x_62_a0 : x_62 ≠ a0 := by have h9 := c_a0.lt; omega
  have hne_x_62_x_1 : x_62 ≠ x_1 := by have h9 := c_x_1.lt; omega
  have hne_x_62_x_2 : x_62 ≠ x_2 := by have h9 := c_x_2.lt; omega
  have c_a0 := c_a0.kept (oq _ c_a0.lt)
  have c_x_1 := c_x_1.kept (oq _ c_x_1.lt)
  have c_x_2 := c_x_2.kept (oq _ c_x_2.lt)
  have hI := jv_keep hI (fun q hq => oq q (jv_lt hI hq))
  clear oq hz9 hx9
  refine lv_dup hx hb dX4_init_88 rfl ?_
  have hzH : n0 ≤ H.size := by have h8 := hS.1; omega
  have hxl := c_x_62.lt
  refine va_callv (va_runIN (As := []) (rest := [.ref x_62, .int (kz 7), .ref x_1]) ⟨hx, hb, hml, hown, hts⟩ (k_Path l dC dI ca X hU x_62 H.size (7 : Nat) h0_x_62 (fidL_no hfid (by decide) (by decide)) (fidL_no hfid (by decide) (by decide)) (fidL_no hfid (by decide) (by decide)) (fidL_no hfid (by decide) (by decide))) ⟨va_cnB 0 hts gX4_init_X5_init_n55 rfl rfl rfl (jN_X4_55 hN) (hts (.initialized RX5) (by decide +kernel)) (by decide +kernel) ⟨Nat.le_of_ble_eq_true rfl, Nat.le_of_ble_eq_true rfl⟩, rfl, (hts (.instanceMethod yX5_init) (by decide +kernel))⟩ ⟨fun a U g mk q => by obtain ⟨q0, q1, ⟨qK, qN⟩, qI⟩ := q; exact ⟨q0, q1, ⟨va_K.moved (u := U) (U := U.calling g mk a) (Vm.Alike.refl U.vm) qK, jN_same (U := U.calling g mk a) rfl qN⟩, qI⟩, fun U hU9 hW => ⟨rfl, by rw [hU9], jK_warm hW ⟨hK, hN⟩, by rw [hU9]; exact ⟨jv_A2 hI (fun _ _ => trivial), c_x_62⟩⟩⟩ rfl rfl hl.1 rfl (lv_room (Nat.le_of_ble_eq_true rfl)) dX4_init_89 ⟨(Nat.le_of_ble_eq_true rfl), (Nat.le_of_ble_eq_true rfl)⟩) hS (fun q h8 h9 => h9.elim (fun e9 => by rw [e9]; exact (hA _ hge_x_62)) (fun e9 => absurd e9 (by omega))) (fun q h9 => h9.elim (fun e9 => by rw [e9]; exact (hA _ hge_x_62)) (fun e9 => hA q (by omega))) (fun X t9 H locs ht hvm hw_63 hB hz1 hk1 hS => ?_)
  obtain ⟨hw_63, hw_63g, hU⟩ := hw_63
  obtain ⟨-, hI⟩ := hB
  rw [ht] at hI
  clear ht hvm
  have hle9 := nw_le hw_63
  have h9 := c_a0.lt
  have c_a0 := c_a0.kept (hk1 _ h9 (fun e9 => e9.elim (Ne.symm hne_x_62_a0) (fun e8 => absurd e8 (by omega))))
  have h8_a0 := nw_0 hw_63 h0_a0 (Ne.symm hne_x_62_a0) h9
  have h9 := c_x_1.lt
  have c_x_1 := c_x_1.kept (hk1 _ h9 (fun e9 => e9.elim (Ne.symm hne_x_62_x_1) (fun e8 => absurd e8 (by omega))))
  have h8_x_1 := nw_0 hw_63 h0_x_1 (Ne.symm hne_x_62_x_1) h9
  have h9 := c_x_2.lt
  have c_x_2 := c_x_2.kept (hk1 _ h9 (fun e9 => e9.elim (Ne.symm hne_x_62_x_2) (fun e8 => absurd e8 (by omega))))
  have h8_x_2 := nw_0 hw_63 h0_x_2 (Ne.symm hne_x_62_x_2) h9
  have h0_a0 := h8_a0
  have h0_x_1 := h8_x_1
  have h0_x_2 := h8_x_2
  have hno_4 := nw_no hw_63 hno_4 (by decide +kernel)
  have hno_226 := nw_no hw_63 hno_226 (by decide +kernel)
  have hno_227 := nw_no hw_63 hno_227 (by decide +kernel)
  have hJ := nw_tr hJ hw_63 (Or.inr hge_x_62) hzH (by decide +kernel)
  have hfid : fidL X [15] := fidL_nw hw_63 hfid (by decide) (fun t ht => by rw [Lp_fid _ t ht]; decide)
  have g_tg := le_t hle9 g_tg (show (30 : Nat) ≠ 0 by decide)
  have g_x_3 := le_t hle9 g_x_3 (show (20 : Nat) ≠ 0 by decide)
  have g_x_4 := le_t hle9 g_x_4 (show (30 : Nat) ≠ 0 by decide)
  have g_x_6 := le_t hle9 g_x_6 (show (30 : Nat) ≠ 0 by decide)
  have g_x_10 := le_t hle9 g_x_10 (show (30 : Nat) ≠ 0 by decide)
  have g_x_14 := le_t hle9 g_x_14 (show (30 : Nat) ≠ 0 by decide)
  have g_x_18 := le_t hle9 g_x_18 (show (30 : Nat) ≠ 0 by decide)
  have g_x_22 := le_t hle9 g_x_22 (show (30 : Nat) ≠ 0 by decide)
  have g_x_26 := le_t hle9 g_x_26 (show (30 : Nat) ≠ 0 by decide)
  have g_x_30 := le_t hle9 g_x_30 (show (30 : Nat) ≠ 0 by decide)
  have g_x_34 := le_t hle9 g_x_34 (show (30 : Nat) ≠ 0 by decide)
  have g_x_38 := le_t hle9 g_x_38 (show (30 : Nat) ≠ 0 by decide)
  have g_x_42 := le_t hle9 g_x_42 (show (30 : Nat) ≠ 0 by decide)
  have g_x_46 := le_t hle9 g_x_46 (show (30 : Nat) ≠ 0 by decide)
  have g_x_50 := le_t hle9 g_x_50 (show (30 : Nat) ≠ 0 by decide)
  have g_x_54 := le_t hle9 g_x_54 (show (30 : Nat) ≠ 0 by decide)
  have g_x_58 := le_t hle9 g_x_58 (show (30 : Nat) ≠ 0 by decide)
  clear hle9 hxl hk1 hz1
  have g_x_62 := hw_63g
  obtain ⟨fs9, co_64, jo9⟩ := jv_o5 hI g_x_62
  obtain ⟨chain_64, cost_64, spent_64, place_64, ended_64, rank_64, rfl, g_chain_64, ⟨cost_64a, cost_64b⟩, ⟨spent_64a, spent_64b⟩, ⟨place_64a, place_64b⟩, ⟨ended_64a, ended_64b⟩, ⟨rank_64a, rank_64b⟩⟩ := jo9
  refine jz_aast hx hb hK 6 5 c_x_1 co_64 rfl rfl hS (hA _ hge_x_1) (by omega) (by decide) dX4_init_92 (fun H locs c9 oq hS => ?_)
  have hI := jv_skip hI h0_x_1 oq
  have c_a0 := c_a0.kept (oq _ (Ne.symm hne_x_1_a0))
  have c_x_2 := c_x_2.kept (oq _ hne_x_2_x_1)
  have co_64 := co_64.kept (oq _ (kn_ne0 g_x_62 h0_x_1 (show (30 : Nat) ≠ 0 by decide)))
  obtain ⟨f_65, ef_65⟩ : ∃ f9 : Nat → Option Nat, f9 = va_up f_57 (Int.toNat 7) (some x_62) := ⟨_, rfl⟩
  rw [← ef_65] at c9
  have c_x_1 := c9
  clear oq c9
  refine lv_aload_n hx hb dX4_init_93 rfl (lv_at hl 1 rfl) ?_
  refine iz_get (D := (dC, dI)) (ci := 4) (v := .ref x_2) (C := RX4) (T := TX4) (N := 10) hx hb hts hinX4 hown hK c_a0 rfl 5 (by decide) hL32 (fun _ h9 => h9) rfl dX4_init_94 ?_
  refine lv_iload_n hx hb dX4_init_97 rfl (lv_at hl 0 rfl) ?_
  have hzH : n0 ≤ H.size := by have h8 := hS.1; omega
  refine jz_new (ci := 5) (fs := [.null, .int (kz 0), .int (kz 0), .int (kz 0), .int (kz 0), .int (kz 0)]) (C := RX5) (T := TX5) (N := 6) hx hb hts (by decide +kernel) tyX5 tyX5_ok hown (hts (.classLink RX4 22 RX5) (by decide +kernel)) (hts (.instantiable RX5 6) (by decide +kernel)) (hts (.initialized RX5) (by decide +kernel)) hK hS rfl (fun j hj => by rcases (show j = 0 ∨ j = 1 ∨ j = 2 ∨ j = 3 ∨ j = 4 ∨ j = 5 by omega) with rfl | rfl | rfl | rfl | rfl | rfl <;> rfl) (Nat.le_of_ble_eq_true rfl) (Nat.le_of_ble_eq_true rfl) dX4_init_98 (fun x_66 H hx9 c_x_66 oq hz9 hS => ?_)
  have h0_x_66 : (X.1 x_66).2.1 = 0 := jv_out hI (by omega)
  have hge_x_66 : n0 ≤ x_66 := by omega
  have hne_x_66_a0 : x_66 ≠ a0 := by have h9 := c_a0.lt; omega
  have hne_x_66_x_1 : x_66 ≠ x_1 := by have h9 := c_x_1.lt; omega
  have hne_x_66_x_2 : x_66 ≠ x_2 := by have h9 := c_x_2.lt; omega
  have c_a0 := c_a0.kept (oq _ c_a0.lt)
  have c_x_1 := c_x_1.kept (oq _ c_x_1.lt)
  have c_x_2 := c_x_2.kept (oq _ c_x_2.lt)
  have hI := jv_keep hI (fun q hq => oq q (jv_lt hI hq))
  clear oq hz9 hx9
  refine lv_dup hx hb dX4_init_101 rfl ?_
  have hzH : n0 ≤ H.size := by have h8 := hS.1; omega
  have hxl := c_x_66.lt
  refine va_callv (va_runIN (As := []) (rest := [.ref x_66, .int (kz 7), .ref x_2]) ⟨hx, hb, hml, hown, hts⟩ (k_Path l dC dI ca X hU x_66 H.size (15 : Nat) h0_x_66 (fidL_no hfid (by decide) (by decide)) (fidL_no hfid (by decide) (by decide)) (fidL_no hfid (by decide) (by decide)) (fidL_no hfid (by decide) (by decide))) ⟨va_cnB 0 hts gX4_init_X5_init_n55 rfl rfl rfl (jN_X4_55 hN) (hts (.initialized RX5) (by decide +kernel)) (by decide +kernel) ⟨Nat.le_of_ble_eq_true rfl, Nat.le_of_ble_eq_true rfl⟩, rfl, (hts (.instanceMethod yX5_init) (by decide +kernel))⟩ ⟨fun a U g mk q => by obtain ⟨q0, q1, ⟨qK, qN⟩, qI⟩ := q; exact ⟨q0, q1, ⟨va_K.moved (u := U) (U := U.calling g mk a) (Vm.Alike.refl U.vm) qK, jN_same (U := U.calling g mk a) rfl qN⟩, qI⟩, fun U hU9 hW => ⟨rfl, by rw [hU9], jK_warm hW ⟨hK, hN⟩, by rw [hU9]; exact ⟨jv_A2 hI (fun _ _ => trivial), c_x_66⟩⟩⟩ rfl rfl hl.1 rfl (lv_room (Nat.le_of_ble_eq_true rfl)) dX4_init_102 ⟨(Nat.le_of_ble_eq_true rfl), (Nat.le_of_ble_eq_true rfl)⟩) hS (fun q h8 h9 => h9.elim (fun e9 => by rw [e9]; exact (hA _ hge_x_66)) (fun e9 => absurd e9 (by omega))) (fun q h9 => h9.elim (fun e9 => by rw [e9]; exact (hA _ hge_x_66)) (fun e9 => hA q (by omega))) (fun X t9 H locs ht hvm hw_67 hB hz1 hk1 hS => ?_)
  obtain ⟨hw_67, hw_67g, hU⟩ := hw_67
  obtain ⟨-, hI⟩ := hB
  rw [ht] at hI
  clear ht hvm
  have hle9 := nw_le hw_67
  have h9 := c_a0.lt
  have c_a0 := c_a0.kept (hk1 _ h9 (fun e9 => e9.elim (Ne.symm hne_x_66_a0) (fun e8 => absurd e8 (by omega))))
  have h8_a0 := nw_0 hw_67 h0_a0 (Ne.symm hne_x_66_a0) h9
  have h9 := c_x_1.lt
  have c_x_1 := c_x_1.kept (hk1 _ h9 (fun e9 => e9.elim (Ne.symm hne_x_66_x_1) (fun e8 => absurd e8 (by omega))))
  have h8_x_1 := nw_0 hw_67 h0_x_1 (Ne.symm hne_x_66_x_1) h9
  have h9 := c_x_2.lt
  have c_x_2 := c_x_2.kept (hk1 _ h9 (fun e9 => e9.elim (Ne.symm hne_x_66_x_2) (fun e8 => absurd e8 (by omega))))
  have h8_x_2 := nw_0 hw_67 h0_x_2 (Ne.symm hne_x_66_x_2) h9
  have h0_a0 := h8_a0
  have h0_x_1 := h8_x_1
  have h0_x_2 := h8_x_2
  have hno_4 := nw_no hw_67 hno_4 (by decide +kernel)
  have hno_226 := nw_no hw_67 hno_226 (by decide +kernel)
  have hno_227 := nw_no hw_67 hno_227 (by decide +kernel)
  have hJ := nw_tr hJ hw_67 (Or.inr hge_x_66) hzH (by decide +kernel)
  have hfid : fidL X [] := fidL_nw hw_67 hfid (by decide) (fun t ht => by rw [Lp_fid _ t ht]; decide)
  have g_tg := le_t hle9 g_tg (show (30 : Nat) ≠ 0 by decide)
  have g_x_3 := le_t hle9 g_x_3 (show (20 : Nat) ≠ 0 by decide)
  have g_x_4 := le_t hle9 g_x_4 (show (30 : Nat) ≠ 0 by decide)
  have g_x_6 := le_t hle9 g_x_6 (show (30 : Nat) ≠ 0 by decide)
  have g_x_10 := le_t hle9 g_x_10 (show (30 : Nat) ≠ 0 by decide)
  have g_x_14 := le_t hle9 g_x_14 (show (30 : Nat) ≠ 0 by decide)
  have g_x_18 := le_t hle9 g_x_18 (show (30 : Nat) ≠ 0 by decide)
  have g_x_22 := le_t hle9 g_x_22 (show (30 : Nat) ≠ 0 by decide)
  have g_x_26 := le_t hle9 g_x_26 (show (30 : Nat) ≠ 0 by decide)
  have g_x_30 := le_t hle9 g_x_30 (show (30 : Nat) ≠ 0 by decide)
  have g_x_34 := le_t hle9 g_x_34 (show (30 : Nat) ≠ 0 by decide)
  have g_x_38 := le_t hle9 g_x_38 (show (30 : Nat) ≠ 0 by decide)
  have g_x_42 := le_t hle9 g_x_42 (show (30 : Nat) ≠ 0 by decide)
  have g_x_46 := le_t hle9 g_x_46 (show (30 : Nat) ≠ 0 by decide)
  have g_x_50 := le_t hle9 g_x_50 (show (30 : Nat) ≠ 0 by decide)
  have g_x_54 := le_t hle9 g_x_54 (show (30 : Nat) ≠ 0 by decide)
  have g_x_58 := le_t hle9 g_x_58 (show (30 : Nat) ≠ 0 by decide)
  have g_x_62 := le_t hle9 g_x_62 (show (30 : Nat) ≠ 0 by decide)
  clear hle9 hxl hk1 hz1
  have g_x_66 := hw_67g
  obtain ⟨fs9, co_68, jo9⟩ := jv_o5 hI g_x_66
  obtain ⟨chain_68, cost_68, spent_68, place_68, ended_68, rank_68, rfl, g_chain_68, ⟨cost_68a, cost_68b⟩, ⟨spent_68a, spent_68b⟩, ⟨place_68a, place_68b⟩, ⟨ended_68a, ended_68b⟩, ⟨rank_68a, rank_68b⟩⟩ := jo9
  refine jz_aast hx hb hK 6 5 c_x_2 co_68 rfl rfl hS (hA _ hge_x_2) (by omega) (by decide) dX4_init_105 (fun H locs c9 oq hS => ?_)
  have hI := jv_skip hI h0_x_2 oq
  have c_a0 := c_a0.kept (oq _ (Ne.symm hne_x_2_a0))
  have c_x_1 := c_x_1.kept (oq _ (Ne.symm hne_x_2_x_1))
  have co_68 := co_68.kept (oq _ (kn_ne0 g_x_66 h0_x_2 (show (30 : Nat) ≠ 0 by decide)))
  obtain ⟨f_69, ef_69⟩ : ∃ f9 : Nat → Option Nat, f9 = va_up f_61 (Int.toNat 7) (some x_66) := ⟨_, rfl⟩
  rw [← ef_69] at c9
  have c_x_2 := c9
  clear oq c9
  refine lv_iinc (v := kz 8) (lv' := [(2, .int (kz 8)), (0, .ref a0), (1, .ref tg)]) hx hb dX4_init_106 hl (k := 0) rfl (by decide) (by decide) rfl (fun ls hl => ?_)
  refine lv_goto (tgt := 74) hx hb dX4_init_109 (by decide) ?_
  refine lv_iload_n hx hb dX4_init_74 rfl (lv_at hl 0 rfl) ?_
  refine lv_bipush (v := kz 8) hx hb dX4_init_75 (by decide) ?_
  refine iz_ge (tgt := 112) hx hb dX4_init_77 (by decide) (by unfold rg2; omega) (fun _ => ?_) (fun q9 => absurd q9 (by decide))
  have hle9 := jset_le (X := X) (x := x_1) (226, 26, 8, 0, 0) 0 h0_x_1
  have hI := jv_new1 (t := (226, 26, 8, 0, 0)) (n := 0) hI h0_x_1 trivial (fun q _ => rfl) c_x_1 (jq_e26 (fun j hj => match j, hj with | 0, _ => ⟨x_6, by simp [ef_9, ef_17, ef_25, ef_33, ef_41, ef_49, ef_57, ef_65, va_up], le_t hle9 g_x_6 (show (30 : Nat) ≠ 0 by decide)⟩ | 1, _ => ⟨x_14, by simp [ef_9, ef_17, ef_25, ef_33, ef_41, ef_49, ef_57, ef_65, va_up], le_t hle9 g_x_14 (show (30 : Nat) ≠ 0 by decide)⟩ | 2, _ => ⟨x_22, by simp [ef_9, ef_17, ef_25, ef_33, ef_41, ef_49, ef_57, ef_65, va_up], le_t hle9 g_x_22 (show (30 : Nat) ≠ 0 by decide)⟩ | 3, _ => ⟨x_30, by simp [ef_9, ef_17, ef_25, ef_33, ef_41, ef_49, ef_57, ef_65, va_up], le_t hle9 g_x_30 (show (30 : Nat) ≠ 0 by decide)⟩ | 4, _ => ⟨x_38, by simp [ef_9, ef_17, ef_25, ef_33, ef_41, ef_49, ef_57, ef_65, va_up], le_t hle9 g_x_38 (show (30 : Nat) ≠ 0 by decide)⟩ | 5, _ => ⟨x_46, by simp [ef_9, ef_17, ef_25, ef_33, ef_41, ef_49, ef_57, ef_65, va_up], le_t hle9 g_x_46 (show (30 : Nat) ≠ 0 by decide)⟩ | 6, _ => ⟨x_54, by simp [ef_9, ef_17, ef_25, ef_33, ef_41, ef_49, ef_57, ef_65, va_up], le_t hle9 g_x_54 (show (30 : Nat) ≠ 0 by decide)⟩ | 7, _ => ⟨x_62, by simp [ef_9, ef_17, ef_25, ef_33, ef_41, ef_49, ef_57, ef_65, va_up], le_t hle9 g_x_62 (show (30 : Nat) ≠ 0 by decide)⟩ | (k9 + 8), h9 => absurd h9 (by omega)))
  have hU := jset_U (x := x_1) (t := (226, 26, 8, 0, 0)) 0 hU h0_x_1 (fun _ => hno_226)
  have hJ := nw_set (x := x_1) (t := (226, 26, 8, 0, 0)) 0 hJ h0_x_1 (Or.inr hge_x_1) (by decide +kernel)
  have hno_4 := jset_no (x := x_1) (t := (226, 26, 8, 0, 0)) 0 hno_4 (by decide)
  have hno_227 := jset_no (x := x_1) (t := (226, 26, 8, 0, 0)) 0 hno_227 (by decide)
  have hfid := fidL_set (x := x_1) (t := (226, 26, 8, 0, 0)) 0 hfid (by decide)
  have g_x_1 := jset_self X x_1 (226, 26, 8, 0, 0) 0
  have gn_x_1 := jset_n X x_1 (226, 26, 8, 0, 0) 0
  have h0_a0 : ((jset X x_1 (226, 26, 8, 0, 0) 0).1 a0).2.1 = 0 := by rw [jset_ne X _ _ (Ne.symm hne_x_1_a0)]; exact h0_a0
  have h0_x_2 : ((jset X x_1 (226, 26, 8, 0, 0) 0).1 x_2).2.1 = 0 := by rw [jset_ne X _ _ hne_x_2_x_1]; exact h0_x_2
  obtain ⟨X, hY9⟩ : ∃ Y9 : jG, Y9 = jset X x_1 (226, 26, 8, 0, 0) 0 := ⟨_, rfl⟩
  rw [← hY9] at hle9 hI hU hJ hno_4 hno_227 hfid g_x_1 gn_x_1 h0_a0 h0_x_2
  clear hY9
  have g_tg := le_t hle9 g_tg (show (30 : Nat) ≠ 0 by decide)
  have g_x_3 := le_t hle9 g_x_3 (show (20 : Nat) ≠ 0 by decide)
  have g_x_4 := le_t hle9 g_x_4 (show (30 : Nat) ≠ 0 by decide)
  have g_chain_68 := le_t hle9 g_chain_68 (show (30 : Nat) ≠ 0 by decide)
  have g_x_66 := le_t hle9 g_x_66 (show (30 : Nat) ≠ 0 by decide)
  have g_x_6 := le_t hle9 g_x_6 (show (30 : Nat) ≠ 0 by decide)
  have g_x_10 := le_t hle9 g_x_10 (show (30 : Nat) ≠ 0 by decide)
  have g_x_14 := le_t hle9 g_x_14 (show (30 : Nat) ≠ 0 by decide)
  have g_x_18 := le_t hle9 g_x_18 (show (30 : Nat) ≠ 0 by decide)
  have g_x_22 := le_t hle9 g_x_22 (show (30 : Nat) ≠ 0 by decide)
  have g_x_26 := le_t hle9 g_x_26 (show (30 : Nat) ≠ 0 by decide)
  have g_x_30 := le_t hle9 g_x_30 (show (30 : Nat) ≠ 0 by decide)
  have g_x_34 := le_t hle9 g_x_34 (show (30 : Nat) ≠ 0 by decide)
  have g_x_38 := le_t hle9 g_x_38 (show (30 : Nat) ≠ 0 by decide)
  have g_x_42 := le_t hle9 g_x_42 (show (30 : Nat) ≠ 0 by decide)
  have g_x_46 := le_t hle9 g_x_46 (show (30 : Nat) ≠ 0 by decide)
  have g_x_50 := le_t hle9 g_x_50 (show (30 : Nat) ≠ 0 by decide)
  have g_x_54 := le_t hle9 g_x_54 (show (30 : Nat) ≠ 0 by decide)
  have g_x_58 := le_t hle9 g_x_58 (show (30 : Nat) ≠ 0 by decide)
  have g_x_62 := le_t hle9 g_x_62 (show (30 : Nat) ≠ 0 by decide)
  clear hle9
  have hle9 := jset_le (X := X) (x := x_2) (226, 26, 8, 1, 0) 0 h0_x_2
  have hI := jv_new1 (t := (226, 26, 8, 1, 0)) (n := 0) hI h0_x_2 trivial (fun q _ => rfl) c_x_2 (jq_e26 (fun j hj => match j, hj with | 0, _ => ⟨x_10, by simp [ef_13, ef_21, ef_29, ef_37, ef_45, ef_53, ef_61, ef_69, va_up], le_t hle9 g_x_10 (show (30 : Nat) ≠ 0 by decide)⟩ | 1, _ => ⟨x_18, by simp [ef_13, ef_21, ef_29, ef_37, ef_45, ef_53, ef_61, ef_69, va_up], le_t hle9 g_x_18 (show (30 : Nat) ≠ 0 by decide)⟩ | 2, _ => ⟨x_26, by simp [ef_13, ef_21, ef_29, ef_37, ef_45, ef_53, ef_61, ef_69, va_up], le_t hle9 g_x_26 (show (30 : Nat) ≠ 0 by decide)⟩ | 3, _ => ⟨x_34, by simp [ef_13, ef_21, ef_29, ef_37, ef_45, ef_53, ef_61, ef_69, va_up], le_t hle9 g_x_34 (show (30 : Nat) ≠ 0 by decide)⟩ | 4, _ => ⟨x_42, by simp [ef_13, ef_21, ef_29, ef_37, ef_45, ef_53, ef_61, ef_69, va_up], le_t hle9 g_x_42 (show (30 : Nat) ≠ 0 by decide)⟩ | 5, _ => ⟨x_50, by simp [ef_13, ef_21, ef_29, ef_37, ef_45, ef_53, ef_61, ef_69, va_up], le_t hle9 g_x_50 (show (30 : Nat) ≠ 0 by decide)⟩ | 6, _ => ⟨x_58, by simp [ef_13, ef_21, ef_29, ef_37, ef_45, ef_53, ef_61, ef_69, va_up], le_t hle9 g_x_58 (show (30 : Nat) ≠ 0 by decide)⟩ | 7, _ => ⟨x_66, by simp [ef_13, ef_21, ef_29, ef_37, ef_45, ef_53, ef_61, ef_69, va_up], le_t hle9 g_x_66 (show (30 : Nat) ≠ 0 by decide)⟩ | (k9 + 8), h9 => absurd h9 (by omega)))
  have hU := jset_U (x := x_2) (t := (226, 26, 8, 1, 0)) 0 hU h0_x_2 (fun _ => hno_227)
  have hJ := nw_set (x := x_2) (t := (226, 26, 8, 1, 0)) 0 hJ h0_x_2 (Or.inr hge_x_2) (by decide +kernel)
  have hno_4 := jset_no (x := x_2) (t := (226, 26, 8, 1, 0)) 0 hno_4 (by decide)
  have hfid := fidL_set (x := x_2) (t := (226, 26, 8, 1, 0)) 0 hfid (by decide)
  have g_x_2 := jset_self X x_2 (226, 26, 8, 1, 0) 0
  have gn_x_2 := jset_n X x_2 (226, 26, 8, 1, 0) 0
  have h0_a0 : ((jset X x_2 (226, 26, 8, 1, 0) 0).1 a0).2.1 = 0 := by rw [jset_ne X _ _ (Ne.symm hne_x_2_a0)]; exact h0_a0
  obtain ⟨X, hY9⟩ : ∃ Y9 : jG, Y9 = jset X x_2 (226, 26, 8, 1, 0) 0 := ⟨_, rfl⟩
  rw [← hY9] at hle9 hI hU hJ hno_4 hfid g_x_2 gn_x_2 h0_a0
  clear hY9
  have g_tg := le_t hle9 g_tg (show (30 : Nat) ≠ 0 by decide)
  have g_x_1 := le_t hle9 g_x_1 (show (26 : Nat) ≠ 0 by decide)
  have g_x_3 := le_t hle9 g_x_3 (show (20 : Nat) ≠ 0 by decide)
  have g_x_4 := le_t hle9 g_x_4 (show (30 : Nat) ≠ 0 by decide)
  have g_x_6 := le_t hle9 g_x_6 (show (30 : Nat) ≠ 0 by decide)
  have g_x_10 := le_t hle9 g_x_10 (show (30 : Nat) ≠ 0 by decide)
  have g_x_14 := le_t hle9 g_x_14 (show (30 : Nat) ≠ 0 by decide)
  have g_x_18 := le_t hle9 g_x_18 (show (30 : Nat) ≠ 0 by decide)
  have g_x_22 := le_t hle9 g_x_22 (show (30 : Nat) ≠ 0 by decide)
  have g_x_26 := le_t hle9 g_x_26 (show (30 : Nat) ≠ 0 by decide)
  have g_x_30 := le_t hle9 g_x_30 (show (30 : Nat) ≠ 0 by decide)
  have g_x_34 := le_t hle9 g_x_34 (show (30 : Nat) ≠ 0 by decide)
  have g_x_38 := le_t hle9 g_x_38 (show (30 : Nat) ≠ 0 by decide)
  have g_x_42 := le_t hle9 g_x_42 (show (30 : Nat) ≠ 0 by decide)
  have g_x_46 := le_t hle9 g_x_46 (show (30 : Nat) ≠ 0 by decide)
  have g_x_50 := le_t hle9 g_x_50 (show (30 : Nat) ≠ 0 by decide)
  have g_x_54 := le_t hle9 g_x_54 (show (30 : Nat) ≠ 0 by decide)
  have g_x_58 := le_t hle9 g_x_58 (show (30 : Nat) ≠ 0 by decide)
  have g_x_62 := le_t hle9 g_x_62 (show (30 : Nat) ≠ 0 by decide)
  have g_x_66 := le_t hle9 g_x_66 (show (30 : Nat) ≠ 0 by decide)
  clear hle9
  have hleE := jset_le (X := X) (x := a0) (4, 30, 0, 0, 0) 0 h0_a0
  have hle9 := jset_le (X := X) (x := a0) (4, 30, 0, 0, 0) 0 h0_a0
  have hI := jv_new1 (t := (4, 30, 0, 0, 0)) (n := 0) hI h0_a0 trivial (fun q _ => rfl) c_a0 (jv_c4 ⟨0, 0, 0, 0, x_1, 0, x_2, x_3, 0, tg, x_4, rfl, ⟨by omega, by omega⟩, le_t hleE g_x_1 (show (26 : Nat) ≠ 0 by decide), ⟨by omega, by omega⟩, le_t hleE g_x_2 (show (26 : Nat) ≠ 0 by decide), le_t hleE g_x_3 (show (20 : Nat) ≠ 0 by decide), ⟨by omega, by omega⟩, le_t hleE g_tg (show (30 : Nat) ≠ 0 by decide), le_t hleE g_x_4 (show (30 : Nat) ≠ 0 by decide), by omega, by omega⟩)
  have hU := jset_U (x := a0) (t := (4, 30, 0, 0, 0)) 0 hU h0_a0 (fun _ => hno_4)
  have hJ := nw_set (x := a0) (t := (4, 30, 0, 0, 0)) 0 hJ h0_a0 (Or.inl rfl) (by decide +kernel)
  have hfid := fidL_set (x := a0) (t := (4, 30, 0, 0, 0)) 0 hfid (by decide)
  have g_a0 := jset_self X a0 (4, 30, 0, 0, 0) 0
  have gn_a0 := jset_n X a0 (4, 30, 0, 0, 0) 0
  obtain ⟨X, hY9⟩ : ∃ Y9 : jG, Y9 = jset X a0 (4, 30, 0, 0, 0) 0 := ⟨_, rfl⟩
  rw [← hY9] at hle9 hI hU hJ hfid g_a0 gn_a0
  clear hY9
  have g_tg := le_t hle9 g_tg (show (30 : Nat) ≠ 0 by decide)
  have g_x_4 := le_t hle9 g_x_4 (show (30 : Nat) ≠ 0 by decide)
  have g_x_6 := le_t hle9 g_x_6 (show (30 : Nat) ≠ 0 by decide)
  have g_x_10 := le_t hle9 g_x_10 (show (30 : Nat) ≠ 0 by decide)
  have g_x_14 := le_t hle9 g_x_14 (show (30 : Nat) ≠ 0 by decide)
  have g_x_18 := le_t hle9 g_x_18 (show (30 : Nat) ≠ 0 by decide)
  have g_x_22 := le_t hle9 g_x_22 (show (30 : Nat) ≠ 0 by decide)
  have g_x_26 := le_t hle9 g_x_26 (show (30 : Nat) ≠ 0 by decide)
  have g_x_30 := le_t hle9 g_x_30 (show (30 : Nat) ≠ 0 by decide)
  have g_x_34 := le_t hle9 g_x_34 (show (30 : Nat) ≠ 0 by decide)
  have g_x_38 := le_t hle9 g_x_38 (show (30 : Nat) ≠ 0 by decide)
  have g_x_42 := le_t hle9 g_x_42 (show (30 : Nat) ≠ 0 by decide)
  have g_x_46 := le_t hle9 g_x_46 (show (30 : Nat) ≠ 0 by decide)
  have g_x_50 := le_t hle9 g_x_50 (show (30 : Nat) ≠ 0 by decide)
  have g_x_54 := le_t hle9 g_x_54 (show (30 : Nat) ≠ 0 by decide)
  have g_x_58 := le_t hle9 g_x_58 (show (30 : Nat) ≠ 0 by decide)
  have g_x_62 := le_t hle9 g_x_62 (show (30 : Nat) ≠ 0 by decide)
  have g_x_66 := le_t hle9 g_x_66 (show (30 : Nat) ≠ 0 by decide)
  clear hle9
  exact W.vret hx hb hr (fun t9 ht hW => ⟨⟨X, rfl, ⟨hJ, g_a0, hU⟩, jK_warm hW ⟨hK, hN⟩, by rw [ht]; exact hI⟩, hS.F ht⟩) hS.2.2 dX4_init_112
set_option maxHeartbeats 4000000 in
set_option maxRecDepth 100000 in
/-- X11_init -/
theorem k_JoinBench (l : Launch) (dC : Nat → ClassId) (dI : Nat → Nat → Nat) (ca : Nat → ClassId) (X : jG) (hU : jU X) (a0 n0 : Nat) (h0_a0 : (X.1 a0).2.1 = 0) (hr0 : X.2.2.2 = 0) (ge_a0 : X.1 a0 = (999, 0, 0, 0, 0)) (hno_8 : ∀ q : Nat, X.1 q ≠ (8, 30, 0, 0, 0)) (hno_200 : ∀ q : Nat, X.1 q ≠ (200, 21, 60, 0, 0)) (hno_9 : ∀ q : Nat, X.1 q ≠ (9, 30, 0, 0, 0)) (hno_212 : ∀ q : Nat, X.1 q ≠ (212, 24, 40, 2, 0)) (hno_213 : ∀ q : Nat, X.1 q ≠ (213, 29, 24, 7, 0)) (hno_214 : ∀ q : Nat, X.1 q ≠ (214, 22, 36, 0, 0)) (hno_6 : ∀ q : Nat, X.1 q ≠ (6, 30, 0, 0, 0)) (hno_203 : ∀ q : Nat, X.1 q ≠ (203, 21, 480, 0, 0)) (hno_0 : ∀ q : Nat, X.1 q ≠ (0, 30, (16 : Nat), 0, 0)) (hno_210 : ∀ q : Nat, X.1 q ≠ (210, 24, 40, 2, ((16 : Nat) : Int))) (hno_211 : ∀ q : Nat, X.1 q ≠ (211, 25, 40, 7, ((16 : Nat) : Int))) (hno_10 : ∀ q : Nat, X.1 q ≠ (10, 30, 0, 0, 0)) (hno_229 : ∀ q : Nat, X.1 q ≠ (229, 20, 36, -1, 5)) (hno_1 : ∀ q : Nat, X.1 q ≠ (1, 30, 0, 0, 0)) (hno_215 : ∀ q : Nat, X.1 q ≠ (215, 20, 20, -2147483648, 2147483647)) (hno_216 : ∀ q : Nat, X.1 q ≠ (216, 27, 30, 230, 40)) (hno_217 : ∀ q : Nat, X.1 q ≠ (217, 27, 30, 231, 20)) (hno_218 : ∀ q : Nat, X.1 q ≠ (218, 20, 30, 0, 40)) : Met l yX11_init wsX11_init ({ frames := 3, cells := 78, slots := 2688, locals := 52 }) (va_Pc [.ref a0] (fun U => U.heap.size = n0 ∧ jK (dC, dI) ca U ∧ jv (dC, dI) ca (fun _ => True) X U.heap ∧ va_at (dC, dI) vwCl (a0, .inr (11, [.null, .null, .null, .null, .null, .null, .int (kz 0)])) U.heap)) (va_Qv (fun (u : jG) => jnw0 X u a0 n0 Ljb ∧ jU u ∧ u.1 a0 = (999, 0, 0, 0, 0)) (fun u U => jK (dC, dI) ca U ∧ jv (dC, dI) ca (fun _ => True) u U.heap ∧ ∃ t1 t2 t3 t4 t5 : Nat, u.1 t1 = (8, 30, 0, 0, 0) ∧ u.1 t2 = (9, 30, 0, 0, 0) ∧ u.1 t3 = (6, 30, 0, 0, 0) ∧ u.1 t4 = (10, 30, 0, 0, 0) ∧ u.1 t5 = (1, 30, 0, 0, 0) ∧ va_at (dC, dI) vwCl (a0, .inr (11, [.ref t1, .ref t2, .ref t3, .ref t4, .ref t5, .null, .int (kz 1)])) U.heap) (jA a0 n0)) 78 2688 (jA a0 n0) := by
  refine Met.ofW (cc := cX11_init) (maxL := 1) (ret := none) (by decide) rfl ?_
  intro p e s m args below meth c s₁ B hml hv
  obtain ⟨rfl, hsz, ⟨hK, hN⟩, hI, c_a0⟩ := hv
  have hx := B.exec
  have hb := B.bytes
  have hr := B.returns
  have hts := atoms_spec (ws := wsX11_init) B.pre
  have hown : s.vm.findClass RX11 = some m.cls := findClass_of_methodNamed B.named
  have hin : meth.name = "<init>" := (name_of_methodNamed B.named B.method).1
  have hL12 := hts (.fieldLink RX11 12 "JoinBench" "tape" "LJoinBench$Tape;") (by decide +kernel)
  have hL19 := hts (.fieldLink RX11 19 "JoinBench" "tongue" "LJoinBench$Tongue;") (by decide +kernel)
  have hL26 := hts (.fieldLink RX11 26 "JoinBench" "row" "LJoinBench$Row;") (by decide +kernel)
  have hL33 := hts (.fieldLink RX11 33 "JoinBench" "trees" "LJoinBench$Trees;") (by decide +kernel)
  have hL40 := hts (.fieldLink RX11 40 "JoinBench" "choices" "LJoinBench$Choices;") (by decide +kernel)
  have hL44 := hts (.fieldLink RX11 44 "JoinBench" "parter" "LJoinBench$Parter;") (by decide +kernel)
  have hL48 := hts (.fieldLink RX11 48 "JoinBench" "step" "I") (by decide +kernel)
  have hinX11 : ∀ w ∈ u_ws RX11 TX11 7, w ∈ wsX11_init := by decide +kernel
  have hJ := nw_rf X a0 n0 Ljb
  generalize hAe : jA a0 n0 = A
  have hA : ∀ q : Nat, n0 ≤ q → A q := fun q h => by rw [← hAe]; exact Or.inr h
  have hA0 : A a0 := by rw [← hAe]; exact Or.inl rfl
  obtain ⟨H, hH⟩ : ∃ H : Heap, H = s.heap := ⟨_, rfl⟩
  have hS : va_S A s.heap H [] := by rw [hH]; exact va_S.rf
  have hzH : n0 ≤ H.size := by have h8 := hS.1; omega
  rw [← hH] at hI c_a0 ⊢
  clear hH
  have hl := lv_entry ([.ref a0]) (n := 1) (Nat.le_of_ble_eq_true rfl)
  rw [lg_entry_eq]
  generalize (lg_sl ([.ref a0]) ++ List.replicate (1 - (lg_sl ([.ref a0])).length) Slot.unset).toArray = ls at hl ⊢
  have hl : lv_has ls 1 [(0, .ref a0)] := hl
  refine lv_aload_n hx hb dX11_init_0 rfl (lv_at hl 0 rfl) ?_
  refine W.objInit hx hb hown (hts (.methodLink RX11 3 objectInit) (by decide +kernel)) (hts (.instanceMethod objectInit) (by decide +kernel)) (hts _ (List.mem_of_getElem? (i := 3) rfl)) rfl (by rw [hml]; exact hl.1) rfl dX11_init_1 (Nat.le_of_ble_eq_true rfl) (Nat.le_of_ble_eq_true rfl) ?_
  refine lv_aload_n hx hb dX11_init_4 rfl (lv_at hl 0 rfl) ?_
  have hzH : n0 ≤ H.size := by have h8 := hS.1; omega
  refine jz_new (ci := 8) (fs := [.null, .int (kz 0)]) (C := RX8) (T := TX8) (N := 2) hx hb hts (by decide +kernel) tyX8 tyX8_ok hown (hts (.classLink RX11 9 RX8) (by decide +kernel)) (hts (.instantiable RX8 2) (by decide +kernel)) (hts (.initialized RX8) (by decide +kernel)) hK hS rfl (fun j hj => by rcases (show j = 0 ∨ j = 1 by omega) with rfl | rfl <;> rfl) (Nat.le_of_ble_eq_true rfl) (Nat.le_of_ble_eq_true rfl) dX11_init_5 (fun x_1 H hx9 c_x_1 oq hz9 hS => ?_)
  have h0_x_1 : (X.1 x_1).2.1 = 0 := jv_out hI (by omega)
  have hge_x_1 : n0 ≤ x_1 := by omega
  have hne_x_1_a0 : x_1 ≠ a0 := by have h9 := c_a0.lt; omega
  have c_a0 := c_a0.kept (oq _ c_a0.lt)
  have hI := jv_keep hI (fun q hq => oq q (jv_lt hI hq))
  clear oq hz9 hx9
  refine lv_dup hx hb dX11_init_8 rfl ?_
  have hzH : n0 ≤ H.size := by have h8 := hS.1; omega
  have hxl := c_x_1.lt
  refine va_callv (va_runIN (As := []) (rest := [.ref x_1, .ref a0]) ⟨hx, hb, hml, hown, hts⟩ (k_Tape l dC dI ca X hU x_1 H.size h0_x_1 hno_8 hno_200) ⟨va_cnB 0 hts gX11_init_X8_init_n11 rfl rfl rfl (jN_X11_11 hN) (hts (.initialized RX8) (by decide +kernel)) (by decide +kernel) ⟨Nat.le_of_ble_eq_true rfl, Nat.le_of_ble_eq_true rfl⟩, rfl, (hts (.instanceMethod yX8_init) (by decide +kernel))⟩ ⟨fun a U g mk q => by obtain ⟨q0, q1, ⟨qK, qN⟩, qI⟩ := q; exact ⟨q0, q1, ⟨va_K.moved (u := U) (U := U.calling g mk a) (Vm.Alike.refl U.vm) qK, jN_same (U := U.calling g mk a) rfl qN⟩, qI⟩, fun U hU9 hW => ⟨rfl, by rw [hU9], jK_warm hW ⟨hK, hN⟩, by rw [hU9]; exact ⟨jv_A2 hI (fun _ _ => trivial), c_x_1⟩⟩⟩ rfl rfl hl.1 rfl (lv_room (Nat.le_of_ble_eq_true rfl)) dX11_init_9 ⟨(Nat.le_of_ble_eq_true rfl), (Nat.le_of_ble_eq_true rfl)⟩) hS (fun q h8 h9 => h9.elim (fun e9 => by rw [e9]; exact (hA _ hge_x_1)) (fun e9 => absurd e9 (by omega))) (fun q h9 => h9.elim (fun e9 => by rw [e9]; exact (hA _ hge_x_1)) (fun e9 => hA q (by omega))) (fun X t9 H locs ht hvm hw_2 hB hz1 hk1 hS => ?_)
  obtain ⟨hw_2, hw_2g, hU⟩ := hw_2
  obtain ⟨-, hI⟩ := hB
  rw [ht] at hI
  clear ht hvm
  have hle9 := nw_le hw_2
  have h9 := c_a0.lt
  have c_a0 := c_a0.kept (hk1 _ h9 (fun e9 => e9.elim (Ne.symm hne_x_1_a0) (fun e8 => absurd e8 (by omega))))
  have h8_a0 := nw_0 hw_2 h0_a0 (Ne.symm hne_x_1_a0) h9
  have ge_a0 := (nw_eq hw_2 (Ne.symm hne_x_1_a0) h9).trans ge_a0
  have h0_a0 := h8_a0
  have hno_9 := nw_no hw_2 hno_9 (by decide)
  have hno_212 := nw_no hw_2 hno_212 (by decide)
  have hno_213 := nw_no hw_2 hno_213 (by decide)
  have hno_214 := nw_no hw_2 hno_214 (by decide)
  have hno_6 := nw_no hw_2 hno_6 (by decide)
  have hno_203 := nw_no hw_2 hno_203 (by decide)
  have hno_0 := nw_no hw_2 hno_0 (by simp [Lt8])
  have hno_210 := nw_no hw_2 hno_210 (by simp [Lt8])
  have hno_211 := nw_no hw_2 hno_211 (by simp [Lt8])
  have hno_10 := nw_no hw_2 hno_10 (by decide)
  have hno_229 := nw_no hw_2 hno_229 (by decide)
  have hno_1 := nw_no hw_2 hno_1 (by decide)
  have hno_215 := nw_no hw_2 hno_215 (by decide)
  have hno_216 := nw_no hw_2 hno_216 (by decide)
  have hno_217 := nw_no hw_2 hno_217 (by decide)
  have hno_218 := nw_no hw_2 hno_218 (by decide)
  have hJ := nw_tr hJ hw_2 (Or.inr hge_x_1) hzH (fun c hc => by simp only [Ljb, List.mem_append]; simp [hc])
  have hr0 : X.2.2.2 = 0 := by rw [hle9.2]; exact hr0
  clear hle9 hxl hk1 hz1
  have g_x_1 := hw_2g
  refine iz_putF (D := (dC, dI)) (ci := 11) (v := .ref x_1) (ty := .object "JoinBench$Tape") (C := RX11) (T := TX11) (N := 7) hx hb hts hinX11 tyX11 tyX11_ok nmX11 hown hK c_a0 hS hA0 rfl 0 (by decide) hL12 (fun _ h9 => h9) rfl hin rfl (by decide +kernel) rfl rfl (Nat.le_of_ble_eq_true rfl) dX11_init_12 (fun H locs c9 oq hS hz9 => ?_)
  clear hz9
  have hI := jv_skip hI h0_a0 oq
  have c_a0 := c9
  clear oq c9
  refine lv_aload_n hx hb dX11_init_15 rfl (lv_at hl 0 rfl) ?_
  have hzH : n0 ≤ H.size := by have h8 := hS.1; omega
  refine jz_new (ci := 9) (fs := [.null, .null, .int (kz 0), .int (kz 0), .null]) (C := RX9) (T := TX9) (N := 5) hx hb hts (by decide +kernel) tyX9 tyX9_ok hown (hts (.classLink RX11 16 RX9) (by decide +kernel)) (hts (.instantiable RX9 5) (by decide +kernel)) (hts (.initialized RX9) (by decide +kernel)) hK hS rfl (fun j hj => by rcases (show j = 0 ∨ j = 1 ∨ j = 2 ∨ j = 3 ∨ j = 4 by omega) with rfl | rfl | rfl | rfl | rfl <;> rfl) (Nat.le_of_ble_eq_true rfl) (Nat.le_of_ble_eq_true rfl) dX11_init_16 (fun x_3 H hx9 c_x_3 oq hz9 hS => ?_)
  have h0_x_3 : (X.1 x_3).2.1 = 0 := jv_out hI (by omega)
  have hge_x_3 : n0 ≤ x_3 := by omega
  have hne_x_3_a0 : x_3 ≠ a0 := by have h9 := c_a0.lt; omega
  have c_a0 := c_a0.kept (oq _ c_a0.lt)
  have hI := jv_keep hI (fun q hq => oq q (jv_lt hI hq))
  clear oq hz9 hx9
  refine lv_dup hx hb dX11_init_19 rfl ?_
  have hzH : n0 ≤ H.size := by have h8 := hS.1; omega
  have hxl := c_x_3.lt
  refine va_callv (va_runIN (As := []) (rest := [.ref x_3, .ref a0]) ⟨hx, hb, hml, hown, hts⟩ (k_Tongue l dC dI ca X hU x_3 H.size h0_x_3 hr0 hno_9 hno_212 hno_213 hno_214) ⟨va_cnB 0 hts gX11_init_X9_init_n18 rfl rfl rfl (jN_X11_18 hN) (hts (.initialized RX9) (by decide +kernel)) (by decide +kernel) ⟨Nat.le_of_ble_eq_true rfl, Nat.le_of_ble_eq_true rfl⟩, rfl, (hts (.instanceMethod yX9_init) (by decide +kernel))⟩ ⟨fun a U g mk q => by obtain ⟨q0, q1, ⟨qK, qN⟩, qI⟩ := q; exact ⟨q0, q1, ⟨va_K.moved (u := U) (U := U.calling g mk a) (Vm.Alike.refl U.vm) qK, jN_same (U := U.calling g mk a) rfl qN⟩, qI⟩, fun U hU9 hW => ⟨rfl, by rw [hU9], jK_warm hW ⟨hK, hN⟩, by rw [hU9]; exact ⟨jv_A2 hI (fun _ _ => trivial), c_x_3⟩⟩⟩ rfl rfl hl.1 rfl (lv_room (Nat.le_of_ble_eq_true rfl)) dX11_init_20 ⟨(Nat.le_of_ble_eq_true rfl), (Nat.le_of_ble_eq_true rfl)⟩) hS (fun q h8 h9 => h9.elim (fun e9 => by rw [e9]; exact (hA _ hge_x_3)) (fun e9 => absurd e9 (by omega))) (fun q h9 => h9.elim (fun e9 => by rw [e9]; exact (hA _ hge_x_3)) (fun e9 => hA q (by omega))) (fun X t9 H locs ht hvm hw_4 hB hz1 hk1 hS => ?_)
  obtain ⟨hw_4, hw_4g, hU⟩ := hw_4
  obtain ⟨-, hI⟩ := hB
  rw [ht] at hI
  clear ht hvm
  have hle9 := nw_le hw_4
  have h9 := c_a0.lt
  have c_a0 := c_a0.kept (hk1 _ h9 (fun e9 => e9.elim (Ne.symm hne_x_3_a0) (fun e8 => absurd e8 (by omega))))
  have h8_a0 := nw_0 hw_4 h0_a0 (Ne.symm hne_x_3_a0) h9
  have ge_a0 := (nw_eq hw_4 (Ne.symm hne_x_3_a0) h9).trans ge_a0
  have h0_a0 := h8_a0
  have hno_6 := nw_no hw_4 hno_6 (by decide)
  have hno_203 := nw_no hw_4 hno_203 (by decide)
  have hno_0 := nw_no hw_4 hno_0 (by simp [Lt9])
  have hno_210 := nw_no hw_4 hno_210 (by simp [Lt9])
  have hno_211 := nw_no hw_4 hno_211 (by simp [Lt9])
  have hno_10 := nw_no hw_4 hno_10 (by decide)
  have hno_229 := nw_no hw_4 hno_229 (by decide)
  have hno_1 := nw_no hw_4 hno_1 (by decide)
  have hno_215 := nw_no hw_4 hno_215 (by decide)
  have hno_216 := nw_no hw_4 hno_216 (by decide)
  have hno_217 := nw_no hw_4 hno_217 (by decide)
  have hno_218 := nw_no hw_4 hno_218 (by decide)
  have hJ := nw_tr hJ hw_4 (Or.inr hge_x_3) hzH (fun c hc => by simp only [Ljb, List.mem_append]; simp [hc])
  have g_x_1 := le_t hle9 g_x_1 (show (30 : Nat) ≠ 0 by decide)
  have hr0 : X.2.2.2 = 0 := by rw [hle9.2]; exact hr0
  clear hle9 hxl hk1 hz1
  have g_x_3 := hw_4g
  refine iz_putF (D := (dC, dI)) (ci := 11) (v := .ref x_3) (ty := .object "JoinBench$Tongue") (C := RX11) (T := TX11) (N := 7) hx hb hts hinX11 tyX11 tyX11_ok nmX11 hown hK c_a0 hS hA0 rfl 1 (by decide) hL19 (fun _ h9 => h9) rfl hin rfl (by decide +kernel) rfl rfl (Nat.le_of_ble_eq_true rfl) dX11_init_23 (fun H locs c9 oq hS hz9 => ?_)
  clear hz9
  have hI := jv_skip hI h0_a0 oq
  have c_a0 := c9
  clear oq c9
  refine lv_aload_n hx hb dX11_init_26 rfl (lv_at hl 0 rfl) ?_
  have hzH : n0 ≤ H.size := by have h8 := hS.1; omega
  refine jz_new (ci := 6) (fs := [.null, .null, .int (kz 0), .int (kz 0)]) (C := RX6) (T := TX6) (N := 4) hx hb hts (by decide +kernel) tyX6 tyX6_ok hown (hts (.classLink RX11 23 RX6) (by decide +kernel)) (hts (.instantiable RX6 4) (by decide +kernel)) (hts (.initialized RX6) (by decide +kernel)) hK hS rfl (fun j hj => by rcases (show j = 0 ∨ j = 1 ∨ j = 2 ∨ j = 3 by omega) with rfl | rfl | rfl | rfl <;> rfl) (Nat.le_of_ble_eq_true rfl) (Nat.le_of_ble_eq_true rfl) dX11_init_27 (fun x_5 H hx9 c_x_5 oq hz9 hS => ?_)
  have h0_x_5 : (X.1 x_5).2.1 = 0 := jv_out hI (by omega)
  have hge_x_5 : n0 ≤ x_5 := by omega
  have hne_x_5_a0 : x_5 ≠ a0 := by have h9 := c_a0.lt; omega
  have c_a0 := c_a0.kept (oq _ c_a0.lt)
  have hI := jv_keep hI (fun q hq => oq q (jv_lt hI hq))
  clear oq hz9 hx9
  refine lv_dup hx hb dX11_init_30 rfl ?_
  have hzH : n0 ≤ H.size := by have h8 := hS.1; omega
  have hxl := c_x_5.lt
  refine va_callv (va_runIN (As := []) (rest := [.ref x_5, .ref a0]) ⟨hx, hb, hml, hown, hts⟩ (k_Row l dC dI ca X hU x_5 H.size h0_x_5 hno_6 hno_203 hno_0 hno_210 hno_211) ⟨va_cnB 0 hts gX11_init_X6_init_n25 rfl rfl rfl (jN_X11_25 hN) (hts (.initialized RX6) (by decide +kernel)) (by decide +kernel) ⟨Nat.le_of_ble_eq_true rfl, Nat.le_of_ble_eq_true rfl⟩, rfl, (hts (.instanceMethod yX6_init) (by decide +kernel))⟩ ⟨fun a U g mk q => by obtain ⟨q0, q1, ⟨qK, qN⟩, qI⟩ := q; exact ⟨q0, q1, ⟨va_K.moved (u := U) (U := U.calling g mk a) (Vm.Alike.refl U.vm) qK, jN_same (U := U.calling g mk a) rfl qN⟩, qI⟩, fun U hU9 hW => ⟨rfl, by rw [hU9], jK_warm hW ⟨hK, hN⟩, by rw [hU9]; exact ⟨jv_A2 hI (fun _ _ => trivial), c_x_5⟩⟩⟩ rfl rfl hl.1 rfl (lv_room (Nat.le_of_ble_eq_true rfl)) dX11_init_31 ⟨(Nat.le_of_ble_eq_true rfl), (Nat.le_of_ble_eq_true rfl)⟩) hS (fun q h8 h9 => h9.elim (fun e9 => by rw [e9]; exact (hA _ hge_x_5)) (fun e9 => absurd e9 (by omega))) (fun q h9 => h9.elim (fun e9 => by rw [e9]; exact (hA _ hge_x_5)) (fun e9 => hA q (by omega))) (fun X t9 H locs ht hvm hw_6 hB hz1 hk1 hS => ?_)
  obtain ⟨hw_6, hw_6g, hU⟩ := hw_6
  obtain ⟨-, hI⟩ := hB
  rw [ht] at hI
  clear ht hvm
  have hle9 := nw_le hw_6
  have h9 := c_a0.lt
  have c_a0 := c_a0.kept (hk1 _ h9 (fun e9 => e9.elim (Ne.symm hne_x_5_a0) (fun e8 => absurd e8 (by omega))))
  have h8_a0 := nw_0 hw_6 h0_a0 (Ne.symm hne_x_5_a0) h9
  have ge_a0 := (nw_eq hw_6 (Ne.symm hne_x_5_a0) h9).trans ge_a0
  have h0_a0 := h8_a0
  have hno_10 := nw_no hw_6 hno_10 (by decide)
  have hno_229 := nw_no hw_6 hno_229 (by decide)
  have hno_1 := nw_no hw_6 hno_1 (by decide)
  have hno_215 := nw_no hw_6 hno_215 (by decide)
  have hno_216 := nw_no hw_6 hno_216 (by decide)
  have hno_217 := nw_no hw_6 hno_217 (by decide)
  have hno_218 := nw_no hw_6 hno_218 (by decide)
  have hJ := nw_tr hJ hw_6 (Or.inr hge_x_5) hzH (fun c hc => by simp only [Ljb, List.mem_append]; simp [hc])
  have g_x_1 := le_t hle9 g_x_1 (show (30 : Nat) ≠ 0 by decide)
  have g_x_3 := le_t hle9 g_x_3 (show (30 : Nat) ≠ 0 by decide)
  have hr0 : X.2.2.2 = 0 := by rw [hle9.2]; exact hr0
  clear hle9 hxl hk1 hz1
  have g_x_5 := hw_6g
  refine iz_putF (D := (dC, dI)) (ci := 11) (v := .ref x_5) (ty := .object "JoinBench$Row") (C := RX11) (T := TX11) (N := 7) hx hb hts hinX11 tyX11 tyX11_ok nmX11 hown hK c_a0 hS hA0 rfl 2 (by decide) hL26 (fun _ h9 => h9) rfl hin rfl (by decide +kernel) rfl rfl (Nat.le_of_ble_eq_true rfl) dX11_init_34 (fun H locs c9 oq hS hz9 => ?_)
  clear hz9
  have hI := jv_skip hI h0_a0 oq
  have c_a0 := c9
  clear oq c9
  refine lv_aload_n hx hb dX11_init_37 rfl (lv_at hl 0 rfl) ?_
  have hzH : n0 ≤ H.size := by have h8 := hS.1; omega
  refine jz_new (ci := 10) (fs := [.null, .null]) (C := RX10) (T := TX10) (N := 2) hx hb hts (by decide +kernel) tyX10 tyX10_ok hown (hts (.classLink RX11 30 RX10) (by decide +kernel)) (hts (.instantiable RX10 2) (by decide +kernel)) (hts (.initialized RX10) (by decide +kernel)) hK hS rfl (fun j hj => by rcases (show j = 0 ∨ j = 1 by omega) with rfl | rfl <;> rfl) (Nat.le_of_ble_eq_true rfl) (Nat.le_of_ble_eq_true rfl) dX11_init_38 (fun x_7 H hx9 c_x_7 oq hz9 hS => ?_)
  have h0_x_7 : (X.1 x_7).2.1 = 0 := jv_out hI (by omega)
  have hge_x_7 : n0 ≤ x_7 := by omega
  have hne_x_7_a0 : x_7 ≠ a0 := by have h9 := c_a0.lt; omega
  have c_a0 := c_a0.kept (oq _ c_a0.lt)
  have hI := jv_keep hI (fun q hq => oq q (jv_lt hI hq))
  clear oq hz9 hx9
  refine lv_dup hx hb dX11_init_41 rfl ?_
  have hzH : n0 ≤ H.size := by have h8 := hS.1; omega
  have hxl := c_x_7.lt
  refine va_callv (va_runI (As := []) (rest := [.ref x_7, .ref a0]) ⟨hx, hb, hml, hown, hts⟩ (k_Trees l dC dI ca X hU x_7 H.size h0_x_7 hno_10 hno_229) (cwI 0 hts gX11_init_X10_init rfl rfl rfl (hts (.initialized RX10) (by decide +kernel)) (hts (.methodLink RX11 32 yX10_init) (by decide +kernel)) (hts (.instanceMethod yX10_init) (by decide +kernel)) rfl (by decide +kernel) ⟨Nat.le_of_ble_eq_true rfl, Nat.le_of_ble_eq_true rfl⟩) ⟨fun a U g mk q => by obtain ⟨q0, q1, ⟨qK, qN⟩, qI⟩ := q; exact ⟨q0, q1, ⟨va_K.moved (u := U) (U := U.calling g mk a) (Vm.Alike.refl U.vm) qK, jN_same (U := U.calling g mk a) rfl qN⟩, qI⟩, fun U hU9 hW => ⟨rfl, by rw [hU9], jK_warm hW ⟨hK, hN⟩, by rw [hU9]; exact ⟨jv_A2 hI (fun _ _ => trivial), c_x_7⟩⟩⟩ rfl rfl hl.1 rfl (lv_room (Nat.le_of_ble_eq_true rfl)) dX11_init_42 ⟨(Nat.le_of_ble_eq_true rfl), (Nat.le_of_ble_eq_true rfl)⟩) hS (fun q h8 h9 => h9.elim (fun e9 => by rw [e9]; exact (hA _ hge_x_7)) (fun e9 => absurd e9 (by omega))) (fun q h9 => h9.elim (fun e9 => by rw [e9]; exact (hA _ hge_x_7)) (fun e9 => hA q (by omega))) (fun X t9 H locs ht hvm hw_8 hB hz1 hk1 hS => ?_)
  obtain ⟨hw_8, hw_8g, hU⟩ := hw_8
  obtain ⟨-, hI⟩ := hB
  rw [ht] at hI
  clear ht hvm
  have hle9 := nw_le hw_8
  have h9 := c_a0.lt
  have c_a0 := c_a0.kept (hk1 _ h9 (fun e9 => e9.elim (Ne.symm hne_x_7_a0) (fun e8 => absurd e8 (by omega))))
  have h8_a0 := nw_0 hw_8 h0_a0 (Ne.symm hne_x_7_a0) h9
  have ge_a0 := (nw_eq hw_8 (Ne.symm hne_x_7_a0) h9).trans ge_a0
  have h0_a0 := h8_a0
  have hno_1 := nw_no hw_8 hno_1 (by decide)
  have hno_215 := nw_no hw_8 hno_215 (by decide)
  have hno_216 := nw_no hw_8 hno_216 (by decide)
  have hno_217 := nw_no hw_8 hno_217 (by decide)
  have hno_218 := nw_no hw_8 hno_218 (by decide)
  have hJ := nw_tr hJ hw_8 (Or.inr hge_x_7) hzH (fun c hc => by simp only [Ljb, List.mem_append]; simp [hc])
  have g_x_1 := le_t hle9 g_x_1 (show (30 : Nat) ≠ 0 by decide)
  have g_x_3 := le_t hle9 g_x_3 (show (30 : Nat) ≠ 0 by decide)
  have g_x_5 := le_t hle9 g_x_5 (show (30 : Nat) ≠ 0 by decide)
  have hr0 : X.2.2.2 = 0 := by rw [hle9.2]; exact hr0
  clear hle9 hxl hk1 hz1
  have g_x_7 := hw_8g
  refine iz_putF (D := (dC, dI)) (ci := 11) (v := .ref x_7) (ty := .object "JoinBench$Trees") (C := RX11) (T := TX11) (N := 7) hx hb hts hinX11 tyX11 tyX11_ok nmX11 hown hK c_a0 hS hA0 rfl 3 (by decide) hL33 (fun _ h9 => h9) rfl hin rfl (by decide +kernel) rfl rfl (Nat.le_of_ble_eq_true rfl) dX11_init_45 (fun H locs c9 oq hS hz9 => ?_)
  clear hz9
  have hI := jv_skip hI h0_a0 oq
  have c_a0 := c9
  clear oq c9
  refine lv_aload_n hx hb dX11_init_48 rfl (lv_at hl 0 rfl) ?_
  have hzH : n0 ≤ H.size := by have h8 := hS.1; omega
  refine jz_new (ci := 1) (fs := [.null, .int (kz 0), .null, .null, .null, .int (kz 0)]) (C := RX1) (T := TX1) (N := 6) hx hb hts (by decide +kernel) tyX1 tyX1_ok hown (hts (.classLink RX11 37 RX1) (by decide +kernel)) (hts (.instantiable RX1 6) (by decide +kernel)) (hts (.initialized RX1) (by decide +kernel)) hK hS rfl (fun j hj => by rcases (show j = 0 ∨ j = 1 ∨ j = 2 ∨ j = 3 ∨ j = 4 ∨ j = 5 by omega) with rfl | rfl | rfl | rfl | rfl | rfl <;> rfl) (Nat.le_of_ble_eq_true rfl) (Nat.le_of_ble_eq_true rfl) dX11_init_49 (fun x_9 H hx9 c_x_9 oq hz9 hS => ?_)
  have h0_x_9 : (X.1 x_9).2.1 = 0 := jv_out hI (by omega)
  have hge_x_9 : n0 ≤ x_9 := by omega
  have hne_x_9_a0 : x_9 ≠ a0 := by have h9 := c_a0.lt; omega
  have c_a0 := c_a0.kept (oq _ c_a0.lt)
  have hI := jv_keep hI (fun q hq => oq q (jv_lt hI hq))
  clear oq hz9 hx9
  refine lv_dup hx hb dX11_init_52 rfl ?_
  have hzH : n0 ≤ H.size := by have h8 := hS.1; omega
  have hxl := c_x_9.lt
  refine va_callv (va_runIN (As := []) (rest := [.ref x_9, .ref a0]) ⟨hx, hb, hml, hown, hts⟩ (k_Choices l dC dI ca X hU x_9 H.size h0_x_9 hno_1 hno_215 hno_216 hno_217 hno_218) ⟨va_cnB 0 hts gX11_init_X1_init_n39 rfl rfl rfl (jN_X11_39 hN) (hts (.initialized RX1) (by decide +kernel)) (by decide +kernel) ⟨Nat.le_of_ble_eq_true rfl, Nat.le_of_ble_eq_true rfl⟩, rfl, (hts (.instanceMethod yX1_init) (by decide +kernel))⟩ ⟨fun a U g mk q => by obtain ⟨q0, q1, ⟨qK, qN⟩, qI⟩ := q; exact ⟨q0, q1, ⟨va_K.moved (u := U) (U := U.calling g mk a) (Vm.Alike.refl U.vm) qK, jN_same (U := U.calling g mk a) rfl qN⟩, qI⟩, fun U hU9 hW => ⟨rfl, by rw [hU9], jK_warm hW ⟨hK, hN⟩, by rw [hU9]; exact ⟨jv_A2 hI (fun _ _ => trivial), c_x_9⟩⟩⟩ rfl rfl hl.1 rfl (lv_room (Nat.le_of_ble_eq_true rfl)) dX11_init_53 ⟨(Nat.le_of_ble_eq_true rfl), (Nat.le_of_ble_eq_true rfl)⟩) hS (fun q h8 h9 => h9.elim (fun e9 => by rw [e9]; exact (hA _ hge_x_9)) (fun e9 => absurd e9 (by omega))) (fun q h9 => h9.elim (fun e9 => by rw [e9]; exact (hA _ hge_x_9)) (fun e9 => hA q (by omega))) (fun X t9 H locs ht hvm hw_10 hB hz1 hk1 hS => ?_)
  obtain ⟨hw_10, hw_10g, hU⟩ := hw_10
  obtain ⟨-, hI⟩ := hB
  rw [ht] at hI
  clear ht hvm
  have hle9 := nw_le hw_10
  have h9 := c_a0.lt
  have c_a0 := c_a0.kept (hk1 _ h9 (fun e9 => e9.elim (Ne.symm hne_x_9_a0) (fun e8 => absurd e8 (by omega))))
  have h8_a0 := nw_0 hw_10 h0_a0 (Ne.symm hne_x_9_a0) h9
  have ge_a0 := (nw_eq hw_10 (Ne.symm hne_x_9_a0) h9).trans ge_a0
  have h0_a0 := h8_a0
  have hJ := nw_tr hJ hw_10 (Or.inr hge_x_9) hzH (fun c hc => by simp only [Ljb, List.mem_append]; simp [hc])
  have g_x_1 := le_t hle9 g_x_1 (show (30 : Nat) ≠ 0 by decide)
  have g_x_3 := le_t hle9 g_x_3 (show (30 : Nat) ≠ 0 by decide)
  have g_x_5 := le_t hle9 g_x_5 (show (30 : Nat) ≠ 0 by decide)
  have g_x_7 := le_t hle9 g_x_7 (show (30 : Nat) ≠ 0 by decide)
  have hr0 : X.2.2.2 = 0 := by rw [hle9.2]; exact hr0
  clear hle9 hxl hk1 hz1
  have g_x_9 := hw_10g
  refine iz_putF (D := (dC, dI)) (ci := 11) (v := .ref x_9) (ty := .object "JoinBench$Choices") (C := RX11) (T := TX11) (N := 7) hx hb hts hinX11 tyX11 tyX11_ok nmX11 hown hK c_a0 hS hA0 rfl 4 (by decide) hL40 (fun _ h9 => h9) rfl hin rfl (by decide +kernel) rfl rfl (Nat.le_of_ble_eq_true rfl) dX11_init_56 (fun H locs c9 oq hS hz9 => ?_)
  clear hz9
  have hI := jv_skip hI h0_a0 oq
  have c_a0 := c9
  clear oq c9
  refine lv_aload_n hx hb dX11_init_59 rfl (lv_at hl 0 rfl) ?_
  refine lv_null hx hb dX11_init_60 ?_
  refine iz_put (D := (dC, dI)) (ci := 11) (v := .null) (ty := .object "JoinBench$Parter") (C := RX11) (T := TX11) (N := 7) hx hb hts hinX11 tyX11 tyX11_ok nmX11 hown hK c_a0 hS hA0 rfl 5 (by decide) hL44 (fun _ h9 => h9) rfl (by decide +kernel) rfl rfl (Nat.le_of_ble_eq_true rfl) dX11_init_61 (fun H locs c9 oq hS => ?_)
  have hI := jv_skip hI h0_a0 oq
  have c_a0 := c9
  clear oq c9
  refine lv_aload_n hx hb dX11_init_64 rfl (lv_at hl 0 rfl) ?_
  refine lv_iconst (v := kz 1) hx hb dX11_init_65 rfl ?_
  refine iz_put (D := (dC, dI)) (ci := 11) (v := .int (kz 1)) (ty := .int) (C := RX11) (T := TX11) (N := 7) hx hb hts hinX11 tyX11 tyX11_ok nmX11 hown hK c_a0 hS hA0 rfl 6 (by decide) hL48 (fun _ h9 => h9) rfl (by decide +kernel) rfl rfl (Nat.le_of_ble_eq_true rfl) dX11_init_66 (fun H locs c9 oq hS => ?_)
  have hI := jv_skip hI h0_a0 oq
  have c_a0 := c9
  clear oq c9
  exact W.vret hx hb hr (fun t9 ht hW => ⟨⟨X, rfl, ⟨hJ, hU, ge_a0⟩, jK_warm hW ⟨hK, hN⟩, by rw [ht]; exact ⟨hI, x_1, x_3, x_5, x_7, x_9, g_x_1, g_x_3, g_x_5, g_x_7, g_x_9, c_a0⟩⟩, hS.F ht⟩) hS.2.2 dX11_init_69
