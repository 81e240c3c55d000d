set_option maxHeartbeats 4000000 in
set_option maxRecDepth 100000 in
/-- X2_init -/
theorem k_Form (l : Launch) (dC : Nat → ClassId) (dI : Nat → Nat → Nat) (ca : Nat → ClassId) (X : jG) (hU : jU X) (a0 n0 : Nat) (tp : Nat) (kd : Int) (st : Int) (co : Int) (kp : Int) (by9 : Nat) (sz : Int) (h0_a0 : (X.1 a0).2.1 = 0) (g_tp : X.1 tp = (8, 30, 0, 0, 0)) (g_by : X.1 by9 = (200, 21, 60, 0, 0)) (hsz9 : 1 ≤ sz ∧ sz ≤ 8) (hkp : kp = 0 ∨ kp = 1) : Met l yX2_init wsX2_init ({ frames := 2, cells := 1, slots := 16, locals := 40 }) (va_Pc [.ref a0, .ref tp, .int (kz kd), .int (kz st), .int (kz co), .int (kz kp)] (fun U => U.heap.size = n0 ∧ jK (dC, dI) ca U ∧ jv (dC, dI) ca (fun _ => True) X U.heap ∧ va_at (dC, dI) vwCl (a0, .inr (2, [.null, .int (kz 0), .int (kz 0), .int (kz 0), .int (kz 0), .int (kz 0), .int (kz 0), .int (kz 0)])) U.heap ∧ va_at (dC, dI) vwCl (tp, .inr (8, [.ref by9, .int (kz sz)])) U.heap)) (va_Qv (fun (u : jG) => jnw0 X u a0 n0 [(201, 21, Int.toNat sz, 0, 0)] ∧ (u.1 a0).2.1 = 0 ∧ jU u) (fun u U => jK (dC, dI) ca U ∧ jv (dC, dI) ca (fun _ => True) u U.heap ∧ ∃ lt : Nat, u.1 lt = (201, 21, Int.toNat sz, 0, 0) ∧ va_at (dC, dI) vwCl (a0, .inr (2, [.ref lt, .int (kz kd), .int (kz st), .int (kz kp), .int (kz co), .int (kz (-1)), .int (kz 0), .int (kz 0)])) U.heap) (jA a0 n0)) 1 16 (jA a0 n0) := by
  refine Met.ofW (cc := cX2_init) (maxL := 6) (ret := none) (by decide) rfl ?_
  intro p e s m args below meth c s₁ B hml hv
  obtain ⟨rfl, hsz, ⟨hK, hN⟩, hI, c_a0, c_tp⟩ := hv
  have hx := B.exec
  have hb := B.bytes
  have hr := B.returns
  have hts := atoms_spec (ws := wsX2_init) B.pre
  have hown : s.vm.findClass RX2 = some m.cls := findClass_of_methodNamed B.named
  have hin : meth.name = "<init>" := (name_of_methodNamed B.named B.method).1
  have hL9 := hts (.fieldLink RX2 9 "JoinBench$Form" "number" "I") (by decide +kernel)
  have hL15 := hts (.fieldLink RX2 15 "JoinBench$Form" "ends" "I") (by decide +kernel)
  have hL18 := hts (.fieldLink RX2 18 "JoinBench$Form" "begins" "I") (by decide +kernel)
  have hL21 := hts (.fieldLink RX2 21 "JoinBench$Tape" "bytes" "[B") (by decide +kernel)
  have hL27 := hts (.fieldLink RX2 27 "JoinBench$Tape" "size" "I") (by decide +kernel)
  have hL36 := hts (.fieldLink RX2 36 "JoinBench$Form" "letters" "[B") (by decide +kernel)
  have hL39 := hts (.fieldLink RX2 39 "JoinBench$Form" "kind" "I") (by decide +kernel)
  have hL42 := hts (.fieldLink RX2 42 "JoinBench$Form" "stem" "I") (by decide +kernel)
  have hL45 := hts (.fieldLink RX2 45 "JoinBench$Form" "cost" "I") (by decide +kernel)
  have hL48 := hts (.fieldLink RX2 48 "JoinBench$Form" "kept" "Z") (by decide +kernel)
  have hinX2 : ∀ w ∈ u_ws RX2 TX2 8, w ∈ wsX2_init := by decide +kernel
  have hinX8 : ∀ w ∈ u_ws RX8 TX8 2, w ∈ wsX2_init := by decide +kernel
  have hJ := nw_rf X a0 n0 [(201, 21, Int.toNat sz, 0, 0)]
  generalize hAe : jA a0 n0 = A
  have hA : ∀ q : Nat, n0 ≤ q → A q := fun q h => by rw [← hAe]; exact Or.inr h
  have hA0 : A a0 := by rw [← hAe]; exact Or.inl rfl
  obtain ⟨H, hH⟩ : ∃ H : Heap, H = s.heap := ⟨_, rfl⟩
  have hS : va_S A s.heap H [] := by rw [hH]; exact va_S.rf
  have hzH : n0 ≤ H.size := by have h8 := hS.1; omega
  rw [← hH] at hI c_a0 c_tp ⊢
  clear hH
  have hl := lv_entry ([.ref a0, .ref tp, .int (kz kd), .int (kz st), .int (kz co), .int (kz kp)]) (n := 6) (Nat.le_of_ble_eq_true rfl)
  rw [lg_entry_eq]
  generalize (lg_sl ([.ref a0, .ref tp, .int (kz kd), .int (kz st), .int (kz co), .int (kz kp)]) ++ List.replicate (6 - (lg_sl ([.ref a0, .ref tp, .int (kz kd), .int (kz st), .int (kz co), .int (kz kp)])).length) Slot.unset).toArray = ls at hl ⊢
  have hl : lv_has ls 6 [(0, .ref a0), (1, .ref tp), (2, .int (kz kd)), (3, .int (kz st)), (4, .int (kz co)), (5, .int (kz kp))] := hl
  refine lv_aload_n hx hb dX2_init_0 rfl (lv_at hl 0 rfl) ?_
  refine W.objInit hx hb hown (hts (.methodLink RX2 3 objectInit) (by decide +kernel)) (hts (.instanceMethod objectInit) (by decide +kernel)) (hts _ (List.mem_of_getElem? (i := 3) rfl)) rfl (by rw [hml]; exact hl.1) rfl dX2_init_1 (Nat.le_of_ble_eq_true rfl) (Nat.le_of_ble_eq_true rfl) ?_
  refine lv_aload_n hx hb dX2_init_4 rfl (lv_at hl 0 rfl) ?_
  refine lv_iconst (v := kz (-1)) hx hb dX2_init_5 rfl ?_
  refine iz_put (D := (dC, dI)) (ci := 2) (v := .int (kz (-1))) (ty := .int) (C := RX2) (T := TX2) (N := 8) hx hb hts hinX2 tyX2 tyX2_ok nmX2 hown hK c_a0 hS hA0 rfl 5 (by decide) hL9 (fun _ h9 => h9) rfl (by decide +kernel) rfl rfl (Nat.le_of_ble_eq_true rfl) dX2_init_6 (fun H locs c9 oq hS => ?_)
  have hI := jv_skip hI h0_a0 oq
  have c_tp := c_tp.kept (oq _ (kn_ne0 g_tp h0_a0 (show (30 : Nat) ≠ 0 by decide)))
  have c_a0 := c9
  clear oq c9
  refine lv_aload_n hx hb dX2_init_9 rfl (lv_at hl 0 rfl) ?_
  refine lv_iconst (v := kz 0) hx hb dX2_init_10 rfl ?_
  refine iz_put (D := (dC, dI)) (ci := 2) (v := .int (kz 0)) (ty := .int) (C := RX2) (T := TX2) (N := 8) hx hb hts hinX2 tyX2 tyX2_ok nmX2 hown hK c_a0 hS hA0 rfl 6 (by decide) hL15 (fun _ h9 => h9) rfl (by decide +kernel) rfl rfl (Nat.le_of_ble_eq_true rfl) dX2_init_11 (fun H locs c9 oq hS => ?_)
  have hI := jv_skip hI h0_a0 oq
  have c_tp := c_tp.kept (oq _ (kn_ne0 g_tp h0_a0 (show (30 : Nat) ≠ 0 by decide)))
  have c_a0 := c9
  clear oq c9
  refine lv_aload_n hx hb dX2_init_14 rfl (lv_at hl 0 rfl) ?_
  refine lv_iconst (v := kz 0) hx hb dX2_init_15 rfl ?_
  refine iz_put (D := (dC, dI)) (ci := 2) (v := .int (kz 0)) (ty := .int) (C := RX2) (T := TX2) (N := 8) hx hb hts hinX2 tyX2 tyX2_ok nmX2 hown hK c_a0 hS hA0 rfl 7 (by decide) hL18 (fun _ h9 => h9) rfl (by decide +kernel) rfl rfl (Nat.le_of_ble_eq_true rfl) dX2_init_16 (fun H locs c9 oq hS => ?_)
  have hI := jv_skip hI h0_a0 oq
  have c_tp := c_tp.kept (oq _ (kn_ne0 g_tp h0_a0 (show (30 : Nat) ≠ 0 by decide)))
  have c_a0 := c9
  clear oq c9
  refine lv_aload_n hx hb dX2_init_19 rfl (lv_at hl 0 rfl) ?_
  refine lv_aload_n hx hb dX2_init_20 rfl (lv_at hl 1 rfl) ?_
  refine iz_get (D := (dC, dI)) (ci := 8) (v := .ref by9) (C := RX8) (T := TX8) (N := 2) hx hb hts hinX8 hown hK c_tp rfl 0 (by decide) hL21 (fun _ h9 => h9) rfl dX2_init_21 ?_
  refine lv_aload_n hx hb dX2_init_24 rfl (lv_at hl 1 rfl) ?_
  refine iz_get (D := (dC, dI)) (ci := 8) (v := .int (kz sz)) (C := RX8) (T := TX8) (N := 2) hx hb hts hinX8 hown hK c_tp rfl 1 (by decide) hL27 (fun _ h9 => h9) rfl dX2_init_25 ?_
  have hzH : n0 ≤ H.size := by have h8 := hS.1; omega
  refine va_callr (va_runS (As := [.ref by9, .int (kz sz)]) (rest := [.ref a0]) ⟨hx, hb, hml, hown, hts⟩ (k_copyOf l dC dI ca X by9 H.size sz g_by (by omega)) (va_cwS 2 hts gX2_init_J7_copyOf_9075b rfl rfl rfl (by decide +kernel) ⟨Nat.le_of_ble_eq_true rfl, Nat.le_of_ble_eq_true rfl⟩) ⟨fun a U g mk q => by obtain ⟨q0, q1, ⟨qK, qN⟩, qI⟩ := q; exact ⟨q0, q1, ⟨va_K.moved (u := U) (U := U.calling g mk a) (Vm.Alike.refl U.vm) qK, jN_same (U := U.calling g mk a) rfl qN⟩, qI⟩, fun U hU9 hW => ⟨rfl, by rw [hU9], jK_warm hW ⟨hK, hN⟩, by rw [hU9]; exact jv_A2 hI (fun _ _ => trivial)⟩⟩ rfl rfl hl.1 rfl (lv_room (Nat.le_of_ble_eq_true rfl)) dX2_init_28 ⟨(Nat.le_of_ble_eq_true rfl), (Nat.le_of_ble_eq_true rfl)⟩) hS (fun q h8 h9 => absurd h9 (Nat.not_le.mpr h8)) (fun q h9 => hA q (Nat.le_trans hzH h9)) (fun u9 x_1 t9 H locs ht hvm hw9 hB hz1 hk1 hS => ?_)
  obtain ⟨-, hx9, c_x_1⟩ := hB
  rw [ht] at c_x_1
  clear ht hvm
  have h0_x_1 : (X.1 x_1).2.1 = 0 := jv_out hI (by omega)
  have hge_x_1 : n0 ≤ x_1 := by omega
  have hne_x_1_a0 : x_1 ≠ a0 := by have h9 := c_a0.lt; omega
  have h9 := c_a0.lt
  have c_a0 := c_a0.kept (hk1 _ h9 (fun e9 => Nat.not_le.mpr h9 e9))
  have h9 := c_tp.lt
  have c_tp := c_tp.kept (hk1 _ h9 (fun e9 => Nat.not_le.mpr h9 e9))
  have hI := jv_keep hI (fun q hq => hk1 q (jv_lt hI hq) (fun e9 => Nat.not_le.mpr (jv_lt hI hq) e9))
  clear hk1 hz1
  have hle9 := jset_le (X := X) (x := x_1) (201, 21, Int.toNat sz, 0, 0) 0 h0_x_1
  have hI := jv_new1 (t := (201, 21, Int.toNat sz, 0, 0)) (n := 0) hI h0_x_1 trivial (fun q _ => rfl) c_x_1 (jz_e21 (show (201 : Nat) ≠ 200 by decide))
  have hU := jset_U (x := x_1) (t := (201, 21, Int.toNat sz, 0, 0)) 0 hU h0_x_1 (fun q9 => absurd q9 (show ¬ uq 201 = true by decide))
  have hJ := nw_set (x := x_1) (t := (201, 21, Int.toNat sz, 0, 0)) 0 hJ h0_x_1 (Or.inr hge_x_1) (by simp)
  have g_x_1 := jset_self X x_1 (201, 21, Int.toNat sz, 0, 0) 0
  have gn_x_1 := jset_n X x_1 (201, 21, Int.toNat sz, 0, 0) 0
  have h0_a0 : ((jset X x_1 (201, 21, Int.toNat sz, 0, 0) 0).1 a0).2.1 = 0 := by rw [jset_ne X _ _ (Ne.symm hne_x_1_a0)]; exact h0_a0
  obtain ⟨X, hY9⟩ : ∃ Y9 : jG, Y9 = jset X x_1 (201, 21, Int.toNat sz, 0, 0) 0 := ⟨_, rfl⟩
  rw [← hY9] at hle9 hI hU hJ g_x_1 gn_x_1 h0_a0
  clear hY9
  have g_tp := le_t hle9 g_tp (show (30 : Nat) ≠ 0 by decide)
  have g_by := le_t hle9 g_by (show (21 : Nat) ≠ 0 by decide)
  clear hle9
  clear hx9
  refine iz_putF (D := (dC, dI)) (ci := 2) (v := .ref x_1) (ty := .array .byte) (C := RX2) (T := TX2) (N := 8) hx hb hts hinX2 tyX2 tyX2_ok nmX2 hown hK c_a0 hS hA0 rfl 0 (by decide) hL36 (fun _ h9 => h9) rfl hin rfl (by decide +kernel) rfl rfl (Nat.le_of_ble_eq_true rfl) dX2_init_31 (fun H locs c9 oq hS hz9 => ?_)
  clear hz9
  have hI := jv_skip hI h0_a0 oq
  have c_tp := c_tp.kept (oq _ (kn_ne0 g_tp h0_a0 (show (30 : Nat) ≠ 0 by decide)))
  have c_a0 := c9
  clear oq c9
  refine lv_aload_n hx hb dX2_init_34 rfl (lv_at hl 0 rfl) ?_
  refine lv_iload_n hx hb dX2_init_35 rfl (lv_at hl 2 rfl) ?_
  refine iz_putF (D := (dC, dI)) (ci := 2) (v := .int (kz kd)) (ty := .int) (C := RX2) (T := TX2) (N := 8) hx hb hts hinX2 tyX2 tyX2_ok nmX2 hown hK c_a0 hS hA0 rfl 1 (by decide) hL39 (fun _ h9 => h9) rfl hin rfl (by decide +kernel) rfl rfl (Nat.le_of_ble_eq_true rfl) dX2_init_36 (fun H locs c9 oq hS hz9 => ?_)
  clear hz9
  have hI := jv_skip hI h0_a0 oq
  have c_tp := c_tp.kept (oq _ (kn_ne0 g_tp h0_a0 (show (30 : Nat) ≠ 0 by decide)))
  have c_a0 := c9
  clear oq c9
  refine lv_aload_n hx hb dX2_init_39 rfl (lv_at hl 0 rfl) ?_
  refine lv_iload_n hx hb dX2_init_40 rfl (lv_at hl 3 rfl) ?_
  refine iz_putF (D := (dC, dI)) (ci := 2) (v := .int (kz st)) (ty := .int) (C := RX2) (T := TX2) (N := 8) hx hb hts hinX2 tyX2 tyX2_ok nmX2 hown hK c_a0 hS hA0 rfl 2 (by decide) hL42 (fun _ h9 => h9) rfl hin rfl (by decide +kernel) rfl rfl (Nat.le_of_ble_eq_true rfl) dX2_init_41 (fun H locs c9 oq hS hz9 => ?_)
  clear hz9
  have hI := jv_skip hI h0_a0 oq
  have c_tp := c_tp.kept (oq _ (kn_ne0 g_tp h0_a0 (show (30 : Nat) ≠ 0 by decide)))
  have c_a0 := c9
  clear oq c9
  refine lv_aload_n hx hb dX2_init_44 rfl (lv_at hl 0 rfl) ?_
  refine lv_iload hx hb dX2_init_45 (lv_at hl 4 rfl) ?_
  refine iz_put (D := (dC, dI)) (ci := 2) (v := .int (kz co)) (ty := .int) (C := RX2) (T := TX2) (N := 8) hx hb hts hinX2 tyX2 tyX2_ok nmX2 hown hK c_a0 hS hA0 rfl 4 (by decide) hL45 (fun _ h9 => h9) rfl (by decide +kernel) rfl rfl (Nat.le_of_ble_eq_true rfl) dX2_init_47 (fun H locs c9 oq hS => ?_)
  have hI := jv_skip hI h0_a0 oq
  have c_tp := c_tp.kept (oq _ (kn_ne0 g_tp h0_a0 (show (30 : Nat) ≠ 0 by decide)))
  have c_a0 := c9
  clear oq c9
  refine lv_aload_n hx hb dX2_init_50 rfl (lv_at hl 0 rfl) ?_
  refine lv_iload hx hb dX2_init_51 (lv_at hl 5 rfl) ?_
  refine iz_putF (D := (dC, dI)) (ci := 2) (v := .int (kz kp)) (ty := .boolean) (C := RX2) (T := TX2) (N := 8) hx hb hts hinX2 tyX2 tyX2_ok nmX2 hown hK c_a0 hS hA0 rfl 3 (by decide) hL48 (fun _ h9 => h9) rfl hin rfl (by decide +kernel) (by rcases hkp with e9 | e9 <;> rw [e9] <;> rfl) (by rcases hkp with e9 | e9 <;> rw [e9] <;> rfl) (Nat.le_of_ble_eq_true rfl) dX2_init_53 (fun H locs c9 oq hS hz9 => ?_)
  clear hz9
  have hI := jv_skip hI h0_a0 oq
  have c_tp := c_tp.kept (oq _ (kn_ne0 g_tp h0_a0 (show (30 : Nat) ≠ 0 by decide)))
  have c_a0 := c9
  clear oq c9
  exact W.vret hx hb hr (fun t9 ht hW => ⟨⟨X, rfl, ⟨hJ, h0_a0, hU⟩, jK_warm hW ⟨hK, hN⟩, by rw [ht]; exact ⟨hI, x_1, g_x_1, c_a0⟩⟩, hS.F ht⟩) hS.2.2 dX2_init_56
set_option maxHeartbeats 4000000 in
set_option maxRecDepth 100000 in
/-- X7_init -/
theorem k_Rule (l : Launch) (dC : Nat → ClassId) (dI : Nat → Nat → Nat) (ca : Nat → ClassId) (X : jG) (hU : jU X) (a0 n0 : Nat) (tp : Nat) (en : Int) (be : Int) (co : Int) (fd : Int) (ld : Int) (by9 : Nat) (sz : Int) (h0_a0 : (X.1 a0).2.1 = 0) (g_tp : X.1 tp = (8, 30, 0, 0, 0)) (g_by : X.1 by9 = (200, 21, 60, 0, 0)) (hsz9 : 0 ≤ sz ∧ sz ≤ 10) : Met l yX7_init wsX7_init ({ frames := 2, cells := 1, slots := 16, locals := 40 }) (va_Pc [.ref a0, .ref tp, .int (kz en), .int (kz be), .int (kz co), .int (kz fd), .int (kz ld)] (fun U => U.heap.size = n0 ∧ jK (dC, dI) ca U ∧ jv (dC, dI) ca (fun _ => True) X U.heap ∧ va_at (dC, dI) vwCl (a0, .inr (7, [.null, .int (kz 0), .int (kz 0), .int (kz 0), .int (kz 0), .int (kz 0), .int (kz 0), .int (kz 0), .int (kz 0)])) U.heap ∧ va_at (dC, dI) vwCl (tp, .inr (8, [.ref by9, .int (kz sz)])) U.heap)) (va_Qv (fun (u : jG) => jnw0 X u a0 n0 [(202, 21, Int.toNat sz, 0, 0)] ∧ (u.1 a0).2.1 = 0 ∧ jU u) (fun u U => jK (dC, dI) ca U ∧ jv (dC, dI) ca (fun _ => True) u U.heap ∧ ∃ lt : Nat, u.1 lt = (202, 21, Int.toNat sz, 0, 0) ∧ va_at (dC, dI) vwCl (a0, .inr (7, [.ref lt, .int (kz en), .int (kz be), .int (kz (en + be)), .int (kz (sz - (en + be))), .int (kz co), .int (kz fd), .int (kz ld), .int (kz (-1))])) U.heap) (jA a0 n0)) 1 16 (jA a0 n0) := by
  refine Met.ofW (cc := cX7_init) (maxL := 7) (ret := none) (by decide) rfl ?_
  intro p e s m args below meth c s₁ B hml hv
  obtain ⟨rfl, hsz, ⟨hK, hN⟩, hI, c_a0, c_tp⟩ := hv
  have hx := B.exec
  have hb := B.bytes
  have hr := B.returns
  have hts := atoms_spec (ws := wsX7_init) B.pre
  have hown : s.vm.findClass RX7 = some m.cls := findClass_of_methodNamed B.named
  have hin : meth.name = "<init>" := (name_of_methodNamed B.named B.method).1
  have hL9 := hts (.fieldLink RX7 9 "JoinBench$Rule" "number" "I") (by decide +kernel)
  have hL15 := hts (.fieldLink RX7 15 "JoinBench$Tape" "bytes" "[B") (by decide +kernel)
  have hL21 := hts (.fieldLink RX7 21 "JoinBench$Tape" "size" "I") (by decide +kernel)
  have hL30 := hts (.fieldLink RX7 30 "JoinBench$Rule" "letters" "[B") (by decide +kernel)
  have hL33 := hts (.fieldLink RX7 33 "JoinBench$Rule" "endSize" "I") (by decide +kernel)
  have hL36 := hts (.fieldLink RX7 36 "JoinBench$Rule" "beginningSize" "I") (by decide +kernel)
  have hL39 := hts (.fieldLink RX7 39 "JoinBench$Rule" "comesFrom" "I") (by decide +kernel)
  have hL42 := hts (.fieldLink RX7 42 "JoinBench$Rule" "comesSize" "I") (by decide +kernel)
  have hL45 := hts (.fieldLink RX7 45 "JoinBench$Rule" "cost" "I") (by decide +kernel)
  have hL48 := hts (.fieldLink RX7 48 "JoinBench$Rule" "firstDay" "I") (by decide +kernel)
  have hL51 := hts (.fieldLink RX7 51 "JoinBench$Rule" "lastDay" "I") (by decide +kernel)
  have hinX7 : ∀ w ∈ u_ws RX7 TX7 9, w ∈ wsX7_init := by decide +kernel
  have hinX8 : ∀ w ∈ u_ws RX8 TX8 2, w ∈ wsX7_init := by decide +kernel
  have hJ := nw_rf X a0 n0 [(202, 21, Int.toNat sz, 0, 0)]
  generalize hAe : jA a0 n0 = A
  have hA : ∀ q : Nat, n0 ≤ q → A q := fun q h => by rw [← hAe]; exact Or.inr h
  have hA0 : A a0 := by rw [← hAe]; exact Or.inl rfl
  obtain ⟨H, hH⟩ : ∃ H : Heap, H = s.heap := ⟨_, rfl⟩
  have hS : va_S A s.heap H [] := by rw [hH]; exact va_S.rf
  have hzH : n0 ≤ H.size := by have h8 := hS.1; omega
  rw [← hH] at hI c_a0 c_tp ⊢
  clear hH
  have hl := lv_entry ([.ref a0, .ref tp, .int (kz en), .int (kz be), .int (kz co), .int (kz fd), .int (kz ld)]) (n := 7) (Nat.le_of_ble_eq_true rfl)
  rw [lg_entry_eq]
  generalize (lg_sl ([.ref a0, .ref tp, .int (kz en), .int (kz be), .int (kz co), .int (kz fd), .int (kz ld)]) ++ List.replicate (7 - (lg_sl ([.ref a0, .ref tp, .int (kz en), .int (kz be), .int (kz co), .int (kz fd), .int (kz ld)])).length) Slot.unset).toArray = ls at hl ⊢
  have hl : lv_has ls 7 [(0, .ref a0), (1, .ref tp), (2, .int (kz en)), (3, .int (kz be)), (4, .int (kz co)), (5, .int (kz fd)), (6, .int (kz ld))] := hl
  refine lv_aload_n hx hb dX7_init_0 rfl (lv_at hl 0 rfl) ?_
  refine W.objInit hx hb hown (hts (.methodLink RX7 3 objectInit) (by decide +kernel)) (hts (.instanceMethod objectInit) (by decide +kernel)) (hts _ (List.mem_of_getElem? (i := 3) rfl)) rfl (by rw [hml]; exact hl.1) rfl dX7_init_1 (Nat.le_of_ble_eq_true rfl) (Nat.le_of_ble_eq_true rfl) ?_
  refine lv_aload_n hx hb dX7_init_4 rfl (lv_at hl 0 rfl) ?_
  refine lv_iconst (v := kz (-1)) hx hb dX7_init_5 rfl ?_
  refine iz_put (D := (dC, dI)) (ci := 7) (v := .int (kz (-1))) (ty := .int) (C := RX7) (T := TX7) (N := 9) hx hb hts hinX7 tyX7 tyX7_ok nmX7 hown hK c_a0 hS hA0 rfl 8 (by decide) hL9 (fun _ h9 => h9) rfl (by decide +kernel) rfl rfl (Nat.le_of_ble_eq_true rfl) dX7_init_6 (fun H locs c9 oq hS => ?_)
  have hI := jv_skip hI h0_a0 oq
  have c_tp := c_tp.kept (oq _ (kn_ne0 g_tp h0_a0 (show (30 : Nat) ≠ 0 by decide)))
  have c_a0 := c9
  clear oq c9
  refine lv_aload_n hx hb dX7_init_9 rfl (lv_at hl 0 rfl) ?_
  refine lv_aload_n hx hb dX7_init_10 rfl (lv_at hl 1 rfl) ?_
  refine iz_get (D := (dC, dI)) (ci := 8) (v := .ref by9) (C := RX8) (T := TX8) (N := 2) hx hb hts hinX8 hown hK c_tp rfl 0 (by decide) hL15 (fun _ h9 => h9) rfl dX7_init_11 ?_
  refine lv_aload_n hx hb dX7_init_14 rfl (lv_at hl 1 rfl) ?_
  refine iz_get (D := (dC, dI)) (ci := 8) (v := .int (kz sz)) (C := RX8) (T := TX8) (N := 2) hx hb hts hinX8 hown hK c_tp rfl 1 (by decide) hL21 (fun _ h9 => h9) rfl dX7_init_15 ?_
  have hzH : n0 ≤ H.size := by have h8 := hS.1; omega
  refine va_callr (va_runS (As := [.ref by9, .int (kz sz)]) (rest := [.ref a0]) ⟨hx, hb, hml, hown, hts⟩ (k_copyOf l dC dI ca X by9 H.size sz g_by (by omega)) (va_cwS 2 hts gX7_init_J7_copyOf_9075b rfl rfl rfl (by decide +kernel) ⟨Nat.le_of_ble_eq_true rfl, Nat.le_of_ble_eq_true rfl⟩) ⟨fun a U g mk q => by obtain ⟨q0, q1, ⟨qK, qN⟩, qI⟩ := q; exact ⟨q0, q1, ⟨va_K.moved (u := U) (U := U.calling g mk a) (Vm.Alike.refl U.vm) qK, jN_same (U := U.calling g mk a) rfl qN⟩, qI⟩, fun U hU9 hW => ⟨rfl, by rw [hU9], jK_warm hW ⟨hK, hN⟩, by rw [hU9]; exact jv_A2 hI (fun _ _ => trivial)⟩⟩ rfl rfl hl.1 rfl (lv_room (Nat.le_of_ble_eq_true rfl)) dX7_init_18 ⟨(Nat.le_of_ble_eq_true rfl), (Nat.le_of_ble_eq_true rfl)⟩) hS (fun q h8 h9 => absurd h9 (Nat.not_le.mpr h8)) (fun q h9 => hA q (Nat.le_trans hzH h9)) (fun u9 x_1 t9 H locs ht hvm hw9 hB hz1 hk1 hS => ?_)
  obtain ⟨-, hx9, c_x_1⟩ := hB
  rw [ht] at c_x_1
  clear ht hvm
  have h0_x_1 : (X.1 x_1).2.1 = 0 := jv_out hI (by omega)
  have hge_x_1 : n0 ≤ x_1 := by omega
  have hne_x_1_a0 : x_1 ≠ a0 := by have h9 := c_a0.lt; omega
  have h9 := c_a0.lt
  have c_a0 := c_a0.kept (hk1 _ h9 (fun e9 => Nat.not_le.mpr h9 e9))
  have h9 := c_tp.lt
  have c_tp := c_tp.kept (hk1 _ h9 (fun e9 => Nat.not_le.mpr h9 e9))
  have hI := jv_keep hI (fun q hq => hk1 q (jv_lt hI hq) (fun e9 => Nat.not_le.mpr (jv_lt hI hq) e9))
  clear hk1 hz1
  have hle9 := jset_le (X := X) (x := x_1) (202, 21, Int.toNat sz, 0, 0) 0 h0_x_1
  have hI := jv_new1 (t := (202, 21, Int.toNat sz, 0, 0)) (n := 0) hI h0_x_1 trivial (fun q _ => rfl) c_x_1 (jz_e21 (show (202 : Nat) ≠ 200 by decide))
  have hU := jset_U (x := x_1) (t := (202, 21, Int.toNat sz, 0, 0)) 0 hU h0_x_1 (fun q9 => absurd q9 (show ¬ uq 202 = true by decide))
  have hJ := nw_set (x := x_1) (t := (202, 21, Int.toNat sz, 0, 0)) 0 hJ h0_x_1 (Or.inr hge_x_1) (by simp)
  have g_x_1 := jset_self X x_1 (202, 21, Int.toNat sz, 0, 0) 0
  have gn_x_1 := jset_n X x_1 (202, 21, Int.toNat sz, 0, 0) 0
  have h0_a0 : ((jset X x_1 (202, 21, Int.toNat sz, 0, 0) 0).1 a0).2.1 = 0 := by rw [jset_ne X _ _ (Ne.symm hne_x_1_a0)]; exact h0_a0
  obtain ⟨X, hY9⟩ : ∃ Y9 : jG, Y9 = jset X x_1 (202, 21, Int.toNat sz, 0, 0) 0 := ⟨_, rfl⟩
  rw [← hY9] at hle9 hI hU hJ g_x_1 gn_x_1 h0_a0
  clear hY9
  have g_tp := le_t hle9 g_tp (show (30 : Nat) ≠ 0 by decide)
  have g_by := le_t hle9 g_by (show (21 : Nat) ≠ 0 by decide)
  clear hle9
  clear hx9
  refine iz_putF (D := (dC, dI)) (ci := 7) (v := .ref x_1) (ty := .array .byte) (C := RX7) (T := TX7) (N := 9) hx hb hts hinX7 tyX7 tyX7_ok nmX7 hown hK c_a0 hS hA0 rfl 0 (by decide) hL30 (fun _ h9 => h9) rfl hin rfl (by decide +kernel) rfl rfl (Nat.le_of_ble_eq_true rfl) dX7_init_21 (fun H locs c9 oq hS hz9 => ?_)
  clear hz9
  have hI := jv_skip hI h0_a0 oq
  have c_tp := c_tp.kept (oq _ (kn_ne0 g_tp h0_a0 (show (30 : Nat) ≠ 0 by decide)))
  have c_a0 := c9
  clear oq c9
  refine lv_aload_n hx hb dX7_init_24 rfl (lv_at hl 0 rfl) ?_
  refine lv_iload_n hx hb dX7_init_25 rfl (lv_at hl 2 rfl) ?_
  refine iz_putF (D := (dC, dI)) (ci := 7) (v := .int (kz en)) (ty := .int) (C := RX7) (T := TX7) (N := 9) hx hb hts hinX7 tyX7 tyX7_ok nmX7 hown hK c_a0 hS hA0 rfl 1 (by decide) hL33 (fun _ h9 => h9) rfl hin rfl (by decide +kernel) rfl rfl (Nat.le_of_ble_eq_true rfl) dX7_init_26 (fun H locs c9 oq hS hz9 => ?_)
  clear hz9
  have hI := jv_skip hI h0_a0 oq
  have c_tp := c_tp.kept (oq _ (kn_ne0 g_tp h0_a0 (show (30 : Nat) ≠ 0 by decide)))
  have c_a0 := c9
  clear oq c9
  refine lv_aload_n hx hb dX7_init_29 rfl (lv_at hl 0 rfl) ?_
  refine lv_iload_n hx hb dX7_init_30 rfl (lv_at hl 3 rfl) ?_
  refine iz_putF (D := (dC, dI)) (ci := 7) (v := .int (kz be)) (ty := .int) (C := RX7) (T := TX7) (N := 9) hx hb hts hinX7 tyX7 tyX7_ok nmX7 hown hK c_a0 hS hA0 rfl 2 (by decide) hL36 (fun _ h9 => h9) rfl hin rfl (by decide +kernel) rfl rfl (Nat.le_of_ble_eq_true rfl) dX7_init_31 (fun H locs c9 oq hS hz9 => ?_)
  clear hz9
  have hI := jv_skip hI h0_a0 oq
  have c_tp := c_tp.kept (oq _ (kn_ne0 g_tp h0_a0 (show (30 : Nat) ≠ 0 by decide)))
  have c_a0 := c9
  clear oq c9
  refine lv_aload_n hx hb dX7_init_34 rfl (lv_at hl 0 rfl) ?_
  refine lv_iload_n hx hb dX7_init_35 rfl (lv_at hl 2 rfl) ?_
  refine lv_iload_n hx hb dX7_init_36 rfl (lv_at hl 3 rfl) ?_
  refine iz_iadd hx hb dX7_init_37 ?_
  refine iz_putF (D := (dC, dI)) (ci := 7) (v := .int (kz (en + be))) (ty := .int) (C := RX7) (T := TX7) (N := 9) hx hb hts hinX7 tyX7 tyX7_ok nmX7 hown hK c_a0 hS hA0 rfl 3 (by decide) hL39 (fun _ h9 => h9) rfl hin rfl (by decide +kernel) rfl rfl (Nat.le_of_ble_eq_true rfl) dX7_init_38 (fun H locs c9 oq hS hz9 => ?_)
  clear hz9
  have hI := jv_skip hI h0_a0 oq
  have c_tp := c_tp.kept (oq _ (kn_ne0 g_tp h0_a0 (show (30 : Nat) ≠ 0 by decide)))
  have c_a0 := c9
  clear oq c9
  refine lv_aload_n hx hb dX7_init_41 rfl (lv_at hl 0 rfl) ?_
  refine lv_aload_n hx hb dX7_init_42 rfl (lv_at hl 1 rfl) ?_
  refine iz_get (D := (dC, dI)) (ci := 8) (v := .int (kz sz)) (C := RX8) (T := TX8) (N := 2) hx hb hts hinX8 hown hK c_tp rfl 1 (by decide) hL21 (fun _ h9 => h9) rfl dX7_init_43 ?_
  refine lv_aload_n hx hb dX7_init_46 rfl (lv_at hl 0 rfl) ?_
  refine iz_get (D := (dC, dI)) (ci := 7) (v := .int (kz (en + be))) (C := RX7) (T := TX7) (N := 9) hx hb hts hinX7 hown hK c_a0 rfl 3 (by decide) hL39 (fun _ h9 => h9) rfl dX7_init_47 ?_
  refine iz_isub hx hb dX7_init_50 ?_
  refine iz_putF (D := (dC, dI)) (ci := 7) (v := .int (kz (sz - (en + be)))) (ty := .int) (C := RX7) (T := TX7) (N := 9) hx hb hts hinX7 tyX7 tyX7_ok nmX7 hown hK c_a0 hS hA0 rfl 4 (by decide) hL42 (fun _ h9 => h9) rfl hin rfl (by decide +kernel) rfl rfl (Nat.le_of_ble_eq_true rfl) dX7_init_51 (fun H locs c9 oq hS hz9 => ?_)
  clear hz9
  have hI := jv_skip hI h0_a0 oq
  have c_tp := c_tp.kept (oq _ (kn_ne0 g_tp h0_a0 (show (30 : Nat) ≠ 0 by decide)))
  have c_a0 := c9
  clear oq c9
  refine lv_aload_n hx hb dX7_init_54 rfl (lv_at hl 0 rfl) ?_
  refine lv_iload hx hb dX7_init_55 (lv_at hl 4 rfl) ?_
  refine iz_putF (D := (dC, dI)) (ci := 7) (v := .int (kz co)) (ty := .int) (C := RX7) (T := TX7) (N := 9) hx hb hts hinX7 tyX7 tyX7_ok nmX7 hown hK c_a0 hS hA0 rfl 5 (by decide) hL45 (fun _ h9 => h9) rfl hin rfl (by decide +kernel) rfl rfl (Nat.le_of_ble_eq_true rfl) dX7_init_57 (fun H locs c9 oq hS hz9 => ?_)
  clear hz9
  have hI := jv_skip hI h0_a0 oq
  have c_tp := c_tp.kept (oq _ (kn_ne0 g_tp h0_a0 (show (30 : Nat) ≠ 0 by decide)))
  have c_a0 := c9
  clear oq c9
  refine lv_aload_n hx hb dX7_init_60 rfl (lv_at hl 0 rfl) ?_
  refine lv_iload hx hb dX7_init_61 (lv_at hl 5 rfl) ?_
  refine iz_putF (D := (dC, dI)) (ci := 7) (v := .int (kz fd)) (ty := .int) (C := RX7) (T := TX7) (N := 9) hx hb hts hinX7 tyX7 tyX7_ok nmX7 hown hK c_a0 hS hA0 rfl 6 (by decide) hL48 (fun _ h9 => h9) rfl hin rfl (by decide +kernel) rfl rfl (Nat.le_of_ble_eq_true rfl) dX7_init_63 (fun H locs c9 oq hS hz9 => ?_)
  clear hz9
  have hI := jv_skip hI h0_a0 oq
  have c_tp := c_tp.kept (oq _ (kn_ne0 g_tp h0_a0 (show (30 : Nat) ≠ 0 by decide)))
  have c_a0 := c9
  clear oq c9
  refine lv_aload_n hx hb dX7_init_66 rfl (lv_at hl 0 rfl) ?_
  refine lv_iload hx hb dX7_init_67 (lv_at hl 6 rfl) ?_
  refine iz_putF (D := (dC, dI)) (ci := 7) (v := .int (kz ld)) (ty := .int) (C := RX7) (T := TX7) (N := 9) hx hb hts hinX7 tyX7 tyX7_ok nmX7 hown hK c_a0 hS hA0 rfl 7 (by decide) hL51 (fun _ h9 => h9) rfl hin rfl (by decide +kernel) rfl rfl (Nat.le_of_ble_eq_true rfl) dX7_init_69 (fun H locs c9 oq hS hz9 => ?_)
  clear hz9
  have hI := jv_skip hI h0_a0 oq
  have c_tp := c_tp.kept (oq _ (kn_ne0 g_tp h0_a0 (show (30 : Nat) ≠ 0 by decide)))
  have c_a0 := c9
  clear oq c9
  exact W.vret hx hb hr (fun t9 ht hW => ⟨⟨X, rfl, ⟨hJ, h0_a0, hU⟩, jK_warm hW ⟨hK, hN⟩, by rw [ht]; exact ⟨hI, x_1, g_x_1, c_a0⟩⟩, hS.F ht⟩) hS.2.2 dX7_init_72
set_option maxHeartbeats 4000000 in
set_option maxRecDepth 100000 in
/-- X9_addForm -/
theorem c_addForm (l : Launch) (dC : Nat → ClassId) (dI : Nat → Nat → Nat) (ca : Nat → ClassId) (A : Nat → Prop) (X : jG) (hU : jU X) (Hp : Heap) (a0 fo ar fb : Nat) (fc rc : Int) (x lt o : Nat) (kd st kp co : Int) (ln : Nat) (g_a0 : X.1 a0 = (9, 30, 0, 0, 0)) (g_fo : X.1 fo = (212, 24, 40, 2, 0)) (g_ar : X.1 ar = (213, 29, 24, 7, 0)) (g_fb : X.1 fb = (214, 22, 36, 0, 0)) (hfc : 0 ≤ fc ∧ fc ≤ 40) (hrc : 0 ≤ rc ∧ rc ≤ 24) (x0 : fc ≤ (X.2.1 fo : Int)) (x1 : rc ≤ (X.2.1 ar : Int)) (x2 : rc = (X.2.2.2 : Int)) (h0_x : (X.1 x).2.1 = 0) (hAx : A x) (g_o : X.1 o = (999, 0, 0, 0, 0)) (hxo : x ≠ o) (g_lt : X.1 lt = (201, 21, ln, 0, 0)) (hkd : 0 ≤ kd ∧ kd ≤ 5) (hst : 0 ≤ st ∧ st ≤ 19) (hkp : -2147483648 ≤ kp ∧ kp ≤ 2147483647) (hco : -2147483648 ≤ co ∧ co ≤ 2147483647) (hln : 1 ≤ ln ∧ ln ≤ 8) : Met l yX9_addForm wsX9_addForm ({ frames := 3, cells := 0, slots := 0, locals := 70 }) (va_Pc [.ref a0, .ref x] (fun U => U.heap = Hp ∧ jK (dC, dI) ca U ∧ jv (dC, dI) ca A X U.heap ∧ va_at (dC, dI) vwCl (a0, .inr (9, [.ref fo, .ref ar, .int (kz fc), .int (kz rc), .ref fb])) U.heap ∧ va_at (dC, dI) vwCl (x, .inr (2, [.ref lt, .int (kz kd), .int (kz st), .int (kz kp), .int (kz co), .int (kz (-1)), .int (kz 0), .int (kz 0)])) U.heap)) (va_Qi (fun (r : Int32) (u : jG) => jaf X u x [2]) (fun u U => jK (dC, dI) ca U ∧ jv (dC, dI) ca A u U.heap ∧ U.heap[o]? = Hp[o]?) A) 0 0 A := by
  refine Met.ofW (cc := cX9_addForm) (maxL := 3) (ret := some .int) (by decide) rfl ?_
  intro p e s m args below meth c s₁ B hml hv
  obtain ⟨rfl, hHp, ⟨hK, hN⟩, hI, co_a0, c_x⟩ := hv
  have hx := B.exec
  have hb := B.bytes
  have hr := B.returns
  have hts := atoms_spec (ws := wsX9_addForm) B.pre
  have hown : s.vm.findClass RX9 = some m.cls := findClass_of_methodNamed B.named
  have hL23 := hts (.fieldLink RX9 23 "JoinBench$Tongue" "formCount" "I") (by decide +kernel)
  have hL34 := hts (.fieldLink RX9 34 "JoinBench$Form" "number" "I") (by decide +kernel)
  have hL11 := hts (.fieldLink RX9 11 "JoinBench$Tongue" "forms" "[LJoinBench$Form;") (by decide +kernel)
  have hL27 := hts (.fieldLink RX9 27 "JoinBench$Tongue" "ruleCount" "I") (by decide +kernel)
  have hL19 := hts (.fieldLink RX9 19 "JoinBench$Tongue" "rules" "[LJoinBench$Rule;") (by decide +kernel)
  have hinX2 : ∀ w ∈ u_ws RX2 TX2 8, w ∈ wsX9_addForm := by decide +kernel
  have hinX9 : ∀ w ∈ u_ws RX9 TX9 5, w ∈ wsX9_addForm := by decide +kernel
  have hAf := af_rf x [2] hU
  have g_o0 : (X.1 o).2.1 = 0 := by rw [g_o]
  obtain ⟨H, hH⟩ : ∃ H : Heap, H = s.heap := ⟨_, rfl⟩
  have hS : va_S A s.heap H [] := by rw [hH]; exact va_S.rf
  have hFo : H[o]? = Hp[o]? := by rw [hH, hHp]
  rw [← hH] at hI co_a0 c_x ⊢
  clear hH
  have hl := lv_entry ([.ref a0, .ref x]) (n := 3) (Nat.le_of_ble_eq_true rfl)
  rw [lg_entry_eq]
  generalize (lg_sl ([.ref a0, .ref x]) ++ List.replicate (3 - (lg_sl ([.ref a0, .ref x])).length) Slot.unset).toArray = ls at hl ⊢
  have hl : lv_has ls 3 [(0, .ref a0), (1, .ref x)] := hl
  refine lv_aload_n hx hb dX9_addForm_0 rfl (lv_at hl 0 rfl) ?_
  refine iz_get (D := (dC, dI)) (ci := 9) (v := .int (kz fc)) (C := RX9) (T := TX9) (N := 5) hx hb hts hinX9 hown hK co_a0 rfl 2 (by decide) hL23 (fun _ h9 => h9) rfl dX9_addForm_1 ?_
  refine lv_bipush (v := kz 40) hx hb dX9_addForm_4 (by decide) ?_
  refine iz_lt (tgt := 11) hx hb dX9_addForm_6 (by decide) (by unfold rg2; omega) (fun br_1 => ?_) (fun br_1 => ?_)
  · refine lv_aload_n hx hb dX9_addForm_11 rfl (lv_at hl 1 rfl) ?_
    refine lv_aload_n hx hb dX9_addForm_12 rfl (lv_at hl 0 rfl) ?_
    refine iz_get (D := (dC, dI)) (ci := 9) (v := .int (kz fc)) (C := RX9) (T := TX9) (N := 5) hx hb hts hinX9 hown hK co_a0 rfl 2 (by decide) hL23 (fun _ h9 => h9) rfl dX9_addForm_13 ?_
    refine iz_put (D := (dC, dI)) (ci := 2) (v := .int (kz fc)) (ty := .int) (C := RX2) (T := TX2) (N := 8) hx hb hts hinX2 tyX2 tyX2_ok nmX2 hown hK c_x hS hAx rfl 5 (by decide) hL34 (fun _ h9 => h9) rfl (by decide +kernel) rfl rfl (Nat.le_of_ble_eq_true rfl) dX9_addForm_16 (fun H locs c9 oq hS => ?_)
    have hI := jv_skip hI h0_x oq
    have co_a0 := co_a0.kept (oq _ (kn_ne0 g_a0 h0_x (show (30 : Nat) ≠ 0 by decide)))
    have hFo := (oq _ (Ne.symm hxo)).trans hFo
    have c_x := c9
    clear oq c9
    have hle9 := jset_le (X := X) (x := x) (2, 30, 0, 0, 0) ln h0_x
    have hI := jv_new1 (t := (2, 30, 0, 0, 0)) (n := ln) hI h0_x hAx (fun q _ => rfl) c_x (jv_c2 ⟨ln, lt, kd, st, kp, co, fc, 0, 0, rfl, le_t hle9 g_lt (show (21 : Nat) ≠ 0 by decide), hkd, hst, hkp, hco, ⟨by omega, by omega⟩, ⟨by omega, by omega⟩, ⟨by omega, by omega⟩, by omega, by omega, jb_zero _ _, by rw [jset_n]⟩)
    have hU := jset_U (x := x) (t := (2, 30, 0, 0, 0)) ln hU h0_x (fun q9 => absurd q9 (show ¬ uq 2 = true by decide))
    have hAf := af_set (X := X) (x := x) (t := (2, 30, 0, 0, 0)) (L := [2]) ln hU (by decide)
    have g_o : (jset X x (2, 30, 0, 0, 0) ln).1 o = (999, 0, 0, 0, 0) := by rw [jset_ne X _ _ (Ne.symm hxo)]; exact g_o
    have g_o0 : ((jset X x (2, 30, 0, 0, 0) ln).1 o).2.1 = 0 := by rw [g_o]
    have g_x := jset_self X x (2, 30, 0, 0, 0) ln
    have gn_x := jset_n X x (2, 30, 0, 0, 0) ln
    obtain ⟨X, hY9⟩ : ∃ Y9 : jG, Y9 = jset X x (2, 30, 0, 0, 0) ln := ⟨_, rfl⟩
    rw [← hY9] at hle9 hI hU hAf g_o g_o0 g_x gn_x
    clear hY9
    have x0 : fc ≤ (X.2.1 fo : Int) := by rw [(hle9.1 fo (by rw [g_fo]; exact (by decide : (24 : Nat) ≠ 0))).2]; exact x0
    have x1 : rc ≤ (X.2.1 ar : Int) := by rw [(hle9.1 ar (by rw [g_ar]; exact (by decide : (29 : Nat) ≠ 0))).2]; exact x1
    have x2 : rc = (X.2.2.2 : Int) := by rw [hle9.2]; exact x2
    have g_a0 := le_t hle9 g_a0 (show (30 : Nat) ≠ 0 by decide)
    have g_fo := le_t hle9 g_fo (show (24 : Nat) ≠ 0 by decide)
    have g_ar := le_t hle9 g_ar (show (29 : Nat) ≠ 0 by decide)
    have g_fb := le_t hle9 g_fb (show (22 : Nat) ≠ 0 by decide)
    clear hle9
    refine lv_aload_n hx hb dX9_addForm_19 rfl (lv_at hl 0 rfl) ?_
    refine iz_get (D := (dC, dI)) (ci := 9) (v := .ref fo) (C := RX9) (T := TX9) (N := 5) hx hb hts hinX9 hown hK co_a0 rfl 0 (by decide) hL11 (fun _ h9 => h9) rfl dX9_addForm_20 ?_
    refine lv_aload_n hx hb dX9_addForm_23 rfl (lv_at hl 0 rfl) ?_
    refine iz_get (D := (dC, dI)) (ci := 9) (v := .int (kz fc)) (C := RX9) (T := TX9) (N := 5) hx hb hts hinX9 hown hK co_a0 rfl 2 (by decide) hL23 (fun _ h9 => h9) rfl dX9_addForm_24 ?_
    refine lv_aload_n hx hb dX9_addForm_27 rfl (lv_at hl 1 rfl) ?_
    obtain ⟨f_2, c_f_2, k_f_2⟩ := jv_q24 hI g_fo
    obtain ⟨fs9, co_3, jo9⟩ := jv_o2 hI g_x
    obtain ⟨ln_3, letters_3, kind_3, stem_3, kept_3, cost_3, number_3, ends_3, begins_3, rfl, g_letters_3, ⟨kind_3a, kind_3b⟩, ⟨stem_3a, stem_3b⟩, ⟨kept_3a, kept_3b⟩, ⟨cost_3a, cost_3b⟩, ⟨number_3a, number_3b⟩, ⟨ends_3a, ends_3b⟩, ⟨begins_3a, begins_3b⟩, x_3_0, x_3_1, x_3_2, x_3_3⟩ := jo9
    refine jz_aast hx hb hK 4 2 c_f_2 co_3 rfl rfl hS (jv_A hI g_fo (show (24 : Nat) ≠ 0 by decide)) (by omega) (by decide) dX9_addForm_28 (fun H locs c9 oq hS => ?_)
    have k9 := q24_up (z := (Int.toNat fc)) k_f_2 g_x
    have hI := jv_set hI c9 oq (by rw [g_fo]; exact jq_e24 k9)
    have co_a0 := co_a0.kept (oq _ (kn_ne g_a0 g_fo (show (9 : Nat) ≠ 212 by decide)))
    have co_3 := co_3.kept (oq _ (kn_ne g_x g_fo (show (2 : Nat) ≠ 212 by decide)))
    have hFo := (oq _ (kn_ne0 g_fo g_o0 (show (24 : Nat) ≠ 0 by decide)).symm).trans hFo
    obtain ⟨X, hup9, hI, hc_4⟩ := jv_up ((Int.toNat fc) + 1) hI g_fo c9 k9 (up_some (fun j hj => (k_f_2 j (by omega)).2 (by omega)))
    have x0 : fc ≤ (X.2.1 fo : Int) := by have h9 := (hup9.2.2 fo).1; omega
    have x1 : rc ≤ (X.2.1 ar : Int) := by have h9 := (hup9.2.2 ar).1; omega
    have x2 : rc = (X.2.2.2 : Int) := by rw [hup9.2.1]; exact x2
    have g_a0 := up_t hup9 g_a0
    have g_x := up_t hup9 g_x
    have g_fo := up_t hup9 g_fo
    have g_ar := up_t hup9 g_ar
    have g_fb := up_t hup9 g_fb
    have hU := up_U hup9 hU
    have hAf := af_up hAf hup9
    have g_o := up_t hup9 g_o
    have g_o0 : (X.1 o).2.1 = 0 := by rw [g_o]
    clear oq c9 k9 hup9
    refine lv_aload_n hx hb dX9_addForm_29 rfl (lv_at hl 0 rfl) ?_
    refine lv_dup hx hb dX9_addForm_30 rfl ?_
    refine iz_get (D := (dC, dI)) (ci := 9) (v := .int (kz fc)) (C := RX9) (T := TX9) (N := 5) hx hb hts hinX9 hown hK co_a0 rfl 2 (by decide) hL23 (fun _ h9 => h9) rfl dX9_addForm_31 ?_
    refine lv_iconst (v := kz 1) hx hb dX9_addForm_34 rfl ?_
    refine iz_iadd hx hb dX9_addForm_35 ?_
    refine iz_put (D := (dC, dI)) (ci := 9) (v := .int (kz (fc + 1))) (ty := .int) (C := RX9) (T := TX9) (N := 5) hx hb hts hinX9 tyX9 tyX9_ok nmX9 hown hK co_a0 hS (jv_A hI g_a0 (show (30 : Nat) ≠ 0 by decide)) rfl 2 (by decide) hL23 (fun _ h9 => h9) rfl (by decide +kernel) rfl rfl (Nat.le_of_ble_eq_true rfl) dX9_addForm_36 (fun H locs c9 oq hS => ?_)
    have hI := jv_set hI c9 oq (by rw [g_a0]; exact jv_c9 ⟨fo, ar, (fc + 1), rc, fb, rfl, g_fo, g_ar, ⟨by omega, by omega⟩, ⟨by omega, by omega⟩, g_fb, by omega, by omega, by omega⟩)
    have hFo := (oq _ (kn_ne0 g_a0 g_o0 (show (30 : Nat) ≠ 0 by decide)).symm).trans hFo
    have co_a0 := c9
    clear oq c9
    refine lv_iconst (v := kz 0) hx hb dX9_addForm_39 rfl ?_
    refine lv_istore_n (lv' := [(2, .int (kz 0)), (0, .ref a0), (1, .ref x)]) hx hb dX9_addForm_40 rfl hl (by decide) rfl (fun ls hl => ?_)
    refine iz_loopA1 (α := Unit) (P := fun N9 _u9 k H locs ls => (0 ≤ k) ∧ (k ≤ 40) ∧ 40 - k ≤ (N9 : Int) ∧ lv_has ls 3 [(2, .int (kz k)), (0, .ref a0), (1, .ref x)] ∧ jv (dC, dI) ca A X H ∧ va_S A s.heap H locs ∧ H[o]? = Hp[o]? ∧ va_at (dC, dI) vwCl (a0, .inr (9, [.ref fo, .ref ar, .int (kz (fc + 1)), .int (kz rc), .ref fb])) H) 100000 () (x0 := 0) ?_ ⟨by omega, by omega, by omega, lv_sub hl [0, 1, 2] rfl, hI, hS, hFo, co_a0⟩
    intro n_5 _u9 k H locs ls ⟨n_5f0, n_5f1, n_5f2, hl, hI, hS, hFo, co_a0⟩ ihn_5
    refine lv_iload_n hx hb dX9_addForm_41 rfl (lv_at hl 0 rfl) ?_
    refine lv_aload_n hx hb dX9_addForm_42 rfl (lv_at hl 1 rfl) ?_
    refine iz_get (D := (dC, dI)) (ci := 9) (v := .int (kz rc)) (C := RX9) (T := TX9) (N := 5) hx hb hts hinX9 hown hK co_a0 rfl 3 (by decide) hL27 (fun _ h9 => h9) rfl dX9_addForm_43 ?_
    refine iz_ge (tgt := 66) hx hb dX9_addForm_46 (by decide) (by unfold rg2; omega) (fun br_6 => ?_) (fun br_6 => ?_)
    · refine lv_aload_n hx hb dX9_addForm_66 rfl (lv_at hl 2 rfl) ?_
      obtain ⟨fs9, co_7, jo9⟩ := jv_o2 hI g_x
      obtain ⟨ln_7, letters_7, kind_7, stem_7, kept_7, cost_7, number_7, ends_7, begins_7, rfl, g_letters_7, ⟨kind_7a, kind_7b⟩, ⟨stem_7a, stem_7b⟩, ⟨kept_7a, kept_7b⟩, ⟨cost_7a, cost_7b⟩, ⟨number_7a, number_7b⟩, ⟨ends_7a, ends_7b⟩, ⟨begins_7a, begins_7b⟩, x_7_0, x_7_1, x_7_2, x_7_3⟩ := jo9
      refine iz_get (D := (dC, dI)) (ci := 2) (v := .int (kz number_7)) (C := RX2) (T := TX2) (N := 8) hx hb hts hinX2 hown hK co_7 rfl 5 (by decide) hL34 (fun _ h9 => h9) rfl dX9_addForm_67 ?_
      exact W.iret (v := kz number_7) hx hb hr (fun t9 ht hW => ⟨⟨kz number_7, X, rfl, hAf, jK_warm hW ⟨hK, hN⟩, by rw [ht]; exact ⟨hI, hFo⟩⟩, hS.F ht⟩) hS.2.2 dX9_addForm_70
    · refine lv_aload_n hx hb dX9_addForm_49 rfl (lv_at hl 1 rfl) ?_
      refine lv_aload_n hx hb dX9_addForm_50 rfl (lv_at hl 2 rfl) ?_
      refine lv_aload_n hx hb dX9_addForm_51 rfl (lv_at hl 1 rfl) ?_
      refine iz_get (D := (dC, dI)) (ci := 9) (v := .ref ar) (C := RX9) (T := TX9) (N := 5) hx hb hts hinX9 hown hK co_a0 rfl 1 (by decide) hL19 (fun _ h9 => h9) rfl dX9_addForm_52 ?_
      refine lv_iload_n hx hb dX9_addForm_55 rfl (lv_at hl 0 rfl) ?_
      obtain ⟨f_8, c_f_8, k_f_8⟩ := jv_q29 hI g_ar
      refine jz_aald hx hb hK 5 c_f_8 rfl rfl (by omega) (by decide) dX9_addForm_56 ?_
      obtain ⟨b_9, eb_9⟩ : ∃ b9 : Nat, f_8 (Int.toNat k) = some b9 := Option.ne_none_iff_exists'.mp ((k_f_8 (Int.toNat k) (by omega)).2 (by omega))
      have g_b_9 := (k_f_8 (Int.toNat k) (by omega)).1 b_9 eb_9
      rw [eb_9]
      refine W.eq (g2 := F0 m 57 ls [.ref b_9, .ref x, .ref a0]) rfl ?_
      refine va_callv (va_runV (As := [.ref x, .ref b_9]) (rest := []) ⟨hx, hb, hml, hown, hts⟩ (c_markFit l dC dI ca A X hU H a0 x b_9 (Int.toNat k) g_a0 g_x g_b_9) (cwV 2 hts gX9_addForm_X9_markFit rfl rfl rfl (by decide +kernel) ⟨Nat.le_of_ble_eq_true rfl, Nat.le_of_ble_eq_true rfl⟩) ⟨fun a U g mk q => by obtain ⟨q0, qH, ⟨qK, qN⟩, qI⟩ := q; exact ⟨q0, qH, ⟨va_K.moved (u := U) (U := U.calling g mk a) (Vm.Alike.refl U.vm) qK, jN_same (U := U.calling g mk a) rfl qN⟩, qI⟩, va_recv hK (at_P co_a0) (ci := 9) (q0 := 0) rfl rfl, fun U hU hW => ⟨rfl, hU, jK_warm hW ⟨hK, hN⟩, by rw [hU]; exact hI⟩⟩ rfl rfl hl.1 rfl (lv_room (Nat.le_of_ble_eq_true rfl)) dX9_addForm_57 ⟨Nat.le_of_ble_eq_true rfl, Nat.le_of_ble_eq_true rfl⟩) hS (fun q _ h => h) (fun q h => h) (fun u t9 H locs ht hvm hw_10 hB hz1 hk1 hS => ?_)
      obtain ⟨-, hI, hf9⟩ := hB
      rw [ht] at hI hf9
      clear ht hvm hz1
      have hFo := (hf9 o (by rw [g_o]; decide)).trans hFo
      have co_a0 := fm_at hf9 g_a0 (show (9 : Nat) ∉ ([2] : List Nat) by decide) co_a0
      have c_f_8 := fm_at hf9 g_ar (show (213 : Nat) ∉ ([2] : List Nat) by decide) c_f_8
      clear hk1 hf9
      refine lv_iinc (v := kz (k + 1)) (lv' := [(2, .int (kz (k + 1))), (0, .ref a0), (1, .ref x)]) hx hb dX9_addForm_60 hl (k := 0) rfl (kz_add k 1) (by decide) rfl (fun ls hl => ?_)
      refine lv_goto (tgt := 41) hx hb dX9_addForm_63 (by decide) ?_
      exact ihn_5 (n_5 - 1) (by omega) () (k + 1) _ _ _ ⟨by omega, by omega, by omega, lv_sub hl [0, 1, 2] rfl, hI, hS, hFo, co_a0⟩
  · refine lv_iconst (v := kz (-1)) hx hb dX9_addForm_9 rfl ?_
    exact W.iret (v := kz (-1)) hx hb hr (fun t9 ht hW => ⟨⟨kz (-1), X, rfl, hAf, jK_warm hW ⟨hK, hN⟩, by rw [ht]; exact ⟨hI, hFo⟩⟩, hS.F ht⟩) hS.2.2 dX9_addForm_10
set_option maxHeartbeats 4000000 in
set_option maxRecDepth 100000 in
/-- X9_addRule -/
theorem c_addRule (l : Launch) (dC : Nat → ClassId) (dI : Nat → Nat → Nat) (ca : Nat → ClassId) (A : Nat → Prop) (X : jG) (hU : jU X) (Hp : Heap) (a0 fo ar fb : Nat) (fc rc : Int) (x lt o : Nat) (en be cs co fd ld : Int) (ln : Nat) (g_a0 : X.1 a0 = (9, 30, 0, 0, 0)) (g_fo : X.1 fo = (212, 24, 40, 2, 0)) (g_ar : X.1 ar = (213, 29, 24, 7, 0)) (g_fb : X.1 fb = (214, 22, 36, 0, 0)) (hfc : 0 ≤ fc ∧ fc ≤ 40) (hrc : 0 ≤ rc ∧ rc ≤ 24) (x0 : fc ≤ (X.2.1 fo : Int)) (x1 : rc ≤ (X.2.1 ar : Int)) (x2 : rc = (X.2.2.2 : Int)) (h0_x : (X.1 x).2.1 = 0) (hAx : A x) (g_o : X.1 o = (999, 0, 0, 0, 0)) (hxo : x ≠ o) (h9 : ∀ q : Nat, (X.1 q).2.1 ≠ 0 → (X.1 q).1 = 9 → q = a0) (g_lt : X.1 lt = (202, 21, ln, 0, 0)) (hen : 0 ≤ en ∧ en ≤ 3) (hbe : 0 ≤ be ∧ be ≤ 3) (hcs : 0 ≤ cs ∧ cs ≤ 4) (hln : (ln : Int) = en + be + cs) (hco : -2147483648 ≤ co ∧ co ≤ 2147483647) (hfd : -2147483648 ≤ fd ∧ fd ≤ 2147483647) (hld : -2147483648 ≤ ld ∧ ld ≤ 2147483647) : Met l yX9_addRule wsX9_addRule ({ frames := 3, cells := 0, slots := 0, locals := 70 }) (va_Pc [.ref a0, .ref x] (fun U => U.heap = Hp ∧ jK (dC, dI) ca U ∧ jv (dC, dI) ca A X U.heap ∧ va_at (dC, dI) vwCl (a0, .inr (9, [.ref fo, .ref ar, .int (kz fc), .int (kz rc), .ref fb])) U.heap ∧ va_at (dC, dI) vwCl (x, .inr (7, [.ref lt, .int (kz en), .int (kz be), .int (kz (en + be)), .int (kz cs), .int (kz co), .int (kz fd), .int (kz ld), .int (kz (-1))])) U.heap)) (va_Qi (fun (r : Int32) (u : jG) => jaf X u x [7]) (fun u U => jK (dC, dI) ca U ∧ jv (dC, dI) ca A u U.heap ∧ U.heap[o]? = Hp[o]?) A) 0 0 A := by
  refine Met.ofW (cc := cX9_addRule) (maxL := 3) (ret := some .int) (by decide) rfl ?_
  intro p e s m args below meth c s₁ B hml hv
  obtain ⟨rfl, hHp, ⟨hK, hN⟩, hI, co_a0, c_x⟩ := hv
  have hx := B.exec
  have hb := B.bytes
  have hr := B.returns
  have hts := atoms_spec (ws := wsX9_addRule) B.pre
  have hown : s.vm.findClass RX9 = some m.cls := findClass_of_methodNamed B.named
  have hL27 := hts (.fieldLink RX9 27 "JoinBench$Tongue" "ruleCount" "I") (by decide +kernel)
  have hL41 := hts (.fieldLink RX9 41 "JoinBench$Rule" "number" "I") (by decide +kernel)
  have hL19 := hts (.fieldLink RX9 19 "JoinBench$Tongue" "rules" "[LJoinBench$Rule;") (by decide +kernel)
  have hL23 := hts (.fieldLink RX9 23 "JoinBench$Tongue" "formCount" "I") (by decide +kernel)
  have hL11 := hts (.fieldLink RX9 11 "JoinBench$Tongue" "forms" "[LJoinBench$Form;") (by decide +kernel)
  have hinX7 : ∀ w ∈ u_ws RX7 TX7 9, w ∈ wsX9_addRule := by decide +kernel
  have hinX9 : ∀ w ∈ u_ws RX9 TX9 5, w ∈ wsX9_addRule := by decide +kernel
  have hAf := af_rf x [7] hU
  have g_o0 : (X.1 o).2.1 = 0 := by rw [g_o]
  obtain ⟨H, hH⟩ : ∃ H : Heap, H = s.heap := ⟨_, rfl⟩
  have hS : va_S A s.heap H [] := by rw [hH]; exact va_S.rf
  have hFo : H[o]? = Hp[o]? := by rw [hH, hHp]
  rw [← hH] at hI co_a0 c_x ⊢
  clear hH
  have hl := lv_entry ([.ref a0, .ref x]) (n := 3) (Nat.le_of_ble_eq_true rfl)
  rw [lg_entry_eq]
  generalize (lg_sl ([.ref a0, .ref x]) ++ List.replicate (3 - (lg_sl ([.ref a0, .ref x])).length) Slot.unset).toArray = ls at hl ⊢
  have hl : lv_has ls 3 [(0, .ref a0), (1, .ref x)] := hl
  refine lv_aload_n hx hb dX9_addRule_0 rfl (lv_at hl 0 rfl) ?_
  refine iz_get (D := (dC, dI)) (ci := 9) (v := .int (kz rc)) (C := RX9) (T := TX9) (N := 5) hx hb hts hinX9 hown hK co_a0 rfl 3 (by decide) hL27 (fun _ h9 => h9) rfl dX9_addRule_1 ?_
  refine lv_bipush (v := kz 24) hx hb dX9_addRule_4 (by decide) ?_
  refine iz_lt (tgt := 11) hx hb dX9_addRule_6 (by decide) (by unfold rg2; omega) (fun br_1 => ?_) (fun br_1 => ?_)
  · refine lv_aload_n hx hb dX9_addRule_11 rfl (lv_at hl 1 rfl) ?_
    refine lv_aload_n hx hb dX9_addRule_12 rfl (lv_at hl 0 rfl) ?_
    refine iz_get (D := (dC, dI)) (ci := 9) (v := .int (kz rc)) (C := RX9) (T := TX9) (N := 5) hx hb hts hinX9 hown hK co_a0 rfl 3 (by decide) hL27 (fun _ h9 => h9) rfl dX9_addRule_13 ?_
    refine iz_put (D := (dC, dI)) (ci := 7) (v := .int (kz rc)) (ty := .int) (C := RX7) (T := TX7) (N := 9) hx hb hts hinX7 tyX7 tyX7_ok nmX7 hown hK c_x hS hAx rfl 8 (by decide) hL41 (fun _ h9 => h9) rfl (by decide +kernel) rfl rfl (Nat.le_of_ble_eq_true rfl) dX9_addRule_16 (fun H locs c9 oq hS => ?_)
    have hI := jv_skip hI h0_x oq
    have co_a0 := co_a0.kept (oq _ (kn_ne0 g_a0 h0_x (show (30 : Nat) ≠ 0 by decide)))
    have hFo := (oq _ (Ne.symm hxo)).trans hFo
    have c_x := c9
    clear oq c9
    refine lv_aload_n hx hb dX9_addRule_19 rfl (lv_at hl 0 rfl) ?_
    refine iz_get (D := (dC, dI)) (ci := 9) (v := .ref ar) (C := RX9) (T := TX9) (N := 5) hx hb hts hinX9 hown hK co_a0 rfl 1 (by decide) hL19 (fun _ h9 => h9) rfl dX9_addRule_20 ?_
    refine lv_aload_n hx hb dX9_addRule_23 rfl (lv_at hl 0 rfl) ?_
    refine iz_get (D := (dC, dI)) (ci := 9) (v := .int (kz rc)) (C := RX9) (T := TX9) (N := 5) hx hb hts hinX9 hown hK co_a0 rfl 3 (by decide) hL27 (fun _ h9 => h9) rfl dX9_addRule_24 ?_
    refine lv_aload_n hx hb dX9_addRule_27 rfl (lv_at hl 1 rfl) ?_
    obtain ⟨f_2, c_f_2, k_f_2⟩ := jv_q29 hI g_ar
    refine jz_aast hx hb hK 5 7 c_f_2 c_x rfl rfl hS (jv_A hI g_ar (show (29 : Nat) ≠ 0 by decide)) (by omega) (by decide) dX9_addRule_28 (fun H locs c_ar oqA hS => ?_)
    have co_a0 := co_a0.kept (oqA _ (kn_ne g_a0 g_ar (show (9 : Nat) ≠ 213 by decide)))
    have c_x := c_x.kept (oqA _ (kn_ne0 g_ar h0_x (show (29 : Nat) ≠ 0 by decide)).symm)
    have hFo := (oqA _ (kn_ne0 g_ar g_o0 (show (29 : Nat) ≠ 0 by decide)).symm).trans hFo
    refine lv_aload_n hx hb dX9_addRule_29 rfl (lv_at hl 0 rfl) ?_
    refine lv_dup hx hb dX9_addRule_30 rfl ?_
    refine iz_get (D := (dC, dI)) (ci := 9) (v := .int (kz rc)) (C := RX9) (T := TX9) (N := 5) hx hb hts hinX9 hown hK co_a0 rfl 3 (by decide) hL27 (fun _ h9 => h9) rfl dX9_addRule_31 ?_
    refine lv_iconst (v := kz 1) hx hb dX9_addRule_34 rfl ?_
    refine iz_iadd hx hb dX9_addRule_35 ?_
    refine iz_put (D := (dC, dI)) (ci := 9) (v := .int (kz (rc + 1))) (ty := .int) (C := RX9) (T := TX9) (N := 5) hx hb hts hinX9 tyX9 tyX9_ok nmX9 hown hK co_a0 hS (jv_A hI g_a0 (show (30 : Nat) ≠ 0 by decide)) rfl 3 (by decide) hL27 (fun _ h9 => h9) rfl (by decide +kernel) rfl rfl (Nat.le_of_ble_eq_true rfl) dX9_addRule_36 (fun H locs co_a0 oq hS => ?_)
    have c_ar := c_ar.kept (oq _ (kn_ne g_ar g_a0 (show (213 : Nat) ≠ 9 by decide)))
    have c_x := c_x.kept (oq _ (kn_ne0 g_a0 h0_x (show (30 : Nat) ≠ 0 by decide)).symm)
    have hFo := (oq _ (kn_ne0 g_a0 g_o0 (show (30 : Nat) ≠ 0 by decide)).symm).trans hFo
    have hn7 := jv_no7 hI
    have hrr := jru_rr (ar := ar) be (cs - en) h0_x (by omega)
    have hI := jv_rule (e := en) (b := be) (cs := cs) hI h9 h0_x hAx (by omega) g_a0 g_ar g_lt g_fo g_fb hfc x0 x2 x1 hen hbe hcs hln hco hfd hld k_f_2 c_ar co_a0 c_x (fun q hq n1 n2 => (oq q n1).trans (oqA q n2))
    have hU := jru_U (x := x) (ar := ar) be (cs - en) hU hn7
    have hAf := jru_af (L := [7]) be (cs - en) hU (by decide)
    have hea : (jru X x ar be (cs - en)).2.1 ar = X.2.2.2 + 1 := if_pos rfl
    have g_x : (jru X x ar be (cs - en)).1 x = (7, 30, X.2.2.2, 0, 0) := if_pos rfl
    have g_o : (jru X x ar be (cs - en)).1 o = (999, 0, 0, 0, 0) := by rw [show (jru X x ar be (cs - en)).1 o = X.1 o from if_neg (Ne.symm hxo)]; exact g_o
    have hef := hrr.2.1 fo (kn_ne g_fo g_ar (show (212 : Nat) ≠ 213 by decide))
    obtain ⟨i7, hi7⟩ : ∃ i : Nat, i = X.2.2.2 := ⟨_, rfl⟩
    rw [← hi7] at g_x hea
    obtain ⟨X, hY9⟩ : ∃ Y9 : jG, Y9 = jru X x ar be (cs - en) := ⟨_, rfl⟩
    rw [← hY9] at hI hU hAf hrr hea g_x g_o hef
    clear hY9
    have g_o0 : (X.1 o).2.1 = 0 := by rw [g_o]
    have g_a0 := hrr.1 _ _ g_a0 (show (30 : Nat) ≠ 0 by decide)
    have g_fo := hrr.1 _ _ g_fo (show (24 : Nat) ≠ 0 by decide)
    have g_ar := hrr.1 _ _ g_ar (show (29 : Nat) ≠ 0 by decide)
    have g_fb := hrr.1 _ _ g_fb (show (22 : Nat) ≠ 0 by decide)
    have x0 : fc ≤ (X.2.1 fo : Int) := by rw [hef]; exact x0
    have x1 : rc + 1 ≤ (X.2.1 ar : Int) := by rw [hea]; omega
    have x2 : rc + 1 = (X.2.2.2 : Int) := by rw [hrr.2.2.2.2]; omega
    clear oq oqA c_ar
    refine lv_iconst (v := kz 0) hx hb dX9_addRule_39 rfl ?_
    refine lv_istore_n (lv' := [(2, .int (kz 0)), (0, .ref a0), (1, .ref x)]) hx hb dX9_addRule_40 rfl hl (by decide) rfl (fun ls hl => ?_)
    refine iz_loopA1 (α := Unit) (P := fun N9 _u9 k H locs ls => (0 ≤ k) ∧ (k ≤ 40) ∧ 40 - k ≤ (N9 : Int) ∧ lv_has ls 3 [(2, .int (kz k)), (0, .ref a0), (1, .ref x)] ∧ jv (dC, dI) ca A X H ∧ va_S A s.heap H locs ∧ H[o]? = Hp[o]? ∧ va_at (dC, dI) vwCl (a0, .inr (9, [.ref fo, .ref ar, .int (kz fc), .int (kz (rc + 1)), .ref fb])) H) 100000 () (x0 := 0) ?_ ⟨by omega, by omega, by omega, lv_sub hl [0, 1, 2] rfl, hI, hS, hFo, co_a0⟩
    intro n_3 _u9 k H locs ls ⟨n_3f0, n_3f1, n_3f2, hl, hI, hS, hFo, co_a0⟩ ihn_3
    refine lv_iload_n hx hb dX9_addRule_41 rfl (lv_at hl 0 rfl) ?_
    refine lv_aload_n hx hb dX9_addRule_42 rfl (lv_at hl 1 rfl) ?_
    refine iz_get (D := (dC, dI)) (ci := 9) (v := .int (kz fc)) (C := RX9) (T := TX9) (N := 5) hx hb hts hinX9 hown hK co_a0 rfl 2 (by decide) hL23 (fun _ h9 => h9) rfl dX9_addRule_43 ?_
    refine iz_ge (tgt := 66) hx hb dX9_addRule_46 (by decide) (by unfold rg2; omega) (fun br_4 => ?_) (fun br_4 => ?_)
    · refine lv_aload_n hx hb dX9_addRule_66 rfl (lv_at hl 2 rfl) ?_
      obtain ⟨fs9, co_5, jo9⟩ := jv_o7 hI g_x
      obtain ⟨ln_5, letters_5, endSize_5, beginningSize_5, comesFrom_5, comesSize_5, cost_5, firstDay_5, lastDay_5, number_5, rfl, g_letters_5, ⟨endSize_5a, endSize_5b⟩, ⟨beginningSize_5a, beginningSize_5b⟩, ⟨comesFrom_5a, comesFrom_5b⟩, ⟨comesSize_5a, comesSize_5b⟩, ⟨cost_5a, cost_5b⟩, ⟨firstDay_5a, firstDay_5b⟩, ⟨lastDay_5a, lastDay_5b⟩, ⟨number_5a, number_5b⟩, x_5_0, x_5_1, x_5_2, x_5_3, x_5_4, x_5_5⟩ := jo9
      refine iz_get (D := (dC, dI)) (ci := 7) (v := .int (kz number_5)) (C := RX7) (T := TX7) (N := 9) hx hb hts hinX7 hown hK co_5 rfl 8 (by decide) hL41 (fun _ h9 => h9) rfl dX9_addRule_67 ?_
      exact W.iret (v := kz number_5) hx hb hr (fun t9 ht hW => ⟨⟨kz number_5, X, rfl, hAf, jK_warm hW ⟨hK, hN⟩, by rw [ht]; exact ⟨hI, hFo⟩⟩, hS.F ht⟩) hS.2.2 dX9_addRule_70
    · refine lv_aload_n hx hb dX9_addRule_49 rfl (lv_at hl 1 rfl) ?_
      refine lv_aload_n hx hb dX9_addRule_50 rfl (lv_at hl 1 rfl) ?_
      refine iz_get (D := (dC, dI)) (ci := 9) (v := .ref fo) (C := RX9) (T := TX9) (N := 5) hx hb hts hinX9 hown hK co_a0 rfl 0 (by decide) hL11 (fun _ h9 => h9) rfl dX9_addRule_51 ?_
      refine lv_iload_n hx hb dX9_addRule_54 rfl (lv_at hl 0 rfl) ?_
      obtain ⟨f_6, c_f_6, k_f_6⟩ := jv_q24 hI g_fo
      refine jz_aald hx hb hK 4 c_f_6 rfl rfl (by omega) (by decide) dX9_addRule_55 ?_
      obtain ⟨b_7, eb_7⟩ : ∃ b9 : Nat, f_6 (Int.toNat k) = some b9 := Option.ne_none_iff_exists'.mp ((k_f_6 (Int.toNat k) (by omega)).2 (by omega))
      have g_b_7 := (k_f_6 (Int.toNat k) (by omega)).1 b_7 eb_7
      rw [eb_7]
      refine W.eq (g2 := F0 m 56 ls [.ref b_7, .ref a0]) rfl ?_
      refine lv_aload_n hx hb dX9_addRule_56 rfl (lv_at hl 2 rfl) ?_
      refine va_callv (va_runV (As := [.ref b_7, .ref x]) (rest := []) ⟨hx, hb, hml, hown, hts⟩ (c_markFit l dC dI ca A X hU H a0 b_7 x i7 g_a0 g_b_7 g_x) (cwV 2 hts gX9_addRule_X9_markFit rfl rfl rfl (by decide +kernel) ⟨Nat.le_of_ble_eq_true rfl, Nat.le_of_ble_eq_true rfl⟩) ⟨fun a U g mk q => by obtain ⟨q0, qH, ⟨qK, qN⟩, qI⟩ := q; exact ⟨q0, qH, ⟨va_K.moved (u := U) (U := U.calling g mk a) (Vm.Alike.refl U.vm) qK, jN_same (U := U.calling g mk a) rfl qN⟩, qI⟩, va_recv hK (at_P co_a0) (ci := 9) (q0 := 0) rfl rfl, fun U hU hW => ⟨rfl, hU, jK_warm hW ⟨hK, hN⟩, by rw [hU]; exact hI⟩⟩ rfl rfl hl.1 rfl (lv_room (Nat.le_of_ble_eq_true rfl)) dX9_addRule_57 ⟨Nat.le_of_ble_eq_true rfl, Nat.le_of_ble_eq_true rfl⟩) hS (fun q _ h => h) (fun q h => h) (fun u t9 H locs ht hvm hw_8 hB hz1 hk1 hS => ?_)
      obtain ⟨-, hI, hf9⟩ := hB
      rw [ht] at hI hf9
      clear ht hvm hz1
      have hFo := (hf9 o (by rw [g_o]; decide)).trans hFo
      have co_a0 := fm_at hf9 g_a0 (show (9 : Nat) ∉ ([2] : List Nat) by decide) co_a0
      have c_f_6 := fm_at hf9 g_fo (show (212 : Nat) ∉ ([2] : List Nat) by decide) c_f_6
      clear hk1 hf9
      refine lv_iinc (v := kz (k + 1)) (lv' := [(2, .int (kz (k + 1))), (0, .ref a0), (1, .ref x)]) hx hb dX9_addRule_60 hl (k := 0) rfl (kz_add k 1) (by decide) rfl (fun ls hl => ?_)
      refine lv_goto (tgt := 41) hx hb dX9_addRule_63 (by decide) ?_
      exact ihn_3 (n_3 - 1) (by omega) () (k + 1) _ _ _ ⟨by omega, by omega, by omega, lv_sub hl [0, 1, 2] rfl, hI, hS, hFo, co_a0⟩
  · refine lv_iconst (v := kz (-1)) hx hb dX9_addRule_9 rfl ?_
    exact W.iret (v := kz (-1)) hx hb hr (fun t9 ht hW => ⟨⟨kz (-1), X, rfl, hAf, jK_warm hW ⟨hK, hN⟩, by rw [ht]; exact ⟨hI, hFo⟩⟩, hS.F ht⟩) hS.2.2 dX9_addRule_10
