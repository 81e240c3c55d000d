def jA2 (n : Nat) : Nat → Prop := fun q => n ≤ q
theorem jz_e20v {ca : Nat → ClassId} {X : jG} {a cd n : Nat} {lo hi v : Int} {u : Nat → Int32} (hu : ∀ j : Nat, j < n → u j = kz v) (h : lo ≤ v ∧ v ≤ hi) (hv : -2147483648 ≤ v ∧ v ≤ 2147483647) : jv_e ca X a (cd, 20, n, lo, hi) (.inl (ca 20, n, .inl u)) :=
  jv_e2 (by decide) (Or.inl (by decide)) (iv_e20 (fun z hz => by
    have e : ge1 u z = v := by
      unfold ge1
      rw [hu z.toNat (by omega), kz_toInt hv.1 hv.2]
    rw [e]
    exact ⟨h.1, h.2, fun q => absurd (show z < (0 : Nat) from q) (by omega)⟩))
set_option maxHeartbeats 4000000 in
set_option maxRecDepth 100000 in
/-- Arrays.copyOf of the tape's bytes -/
theorem k_copyOf (l : Launch) (dC : Nat → ClassId) (dI : Nat → Nat → Nat) (ca : Nat → ClassId) (X : jG) (a n0 : Nat) (n : Int) (g_a : X.1 a = (200, 21, 60, 0, 0)) (hn : 0 ≤ n ∧ n ≤ 16) : Met l yJ7_copyOf_9075b wsJ7_copyOf_9075b ({ frames := 1, cells := 1, slots := 16, locals := 18 }) (va_Pc [.ref a, .int (kz n)] (fun U => U.heap.size = n0 ∧ jK (dC, dI) ca U ∧ jv (dC, dI) ca (fun _ => True) X U.heap)) (va_Qr (fun (_ : Nat → Int32) => True) (fun u r U => jK (dC, dI) ca U ∧ r = n0 ∧ va_at (dC, dI) vwCl (r, .inl (ca 21, n.toNat, .inl u)) U.heap) (jA2 n0)) 1 16 (jA2 n0) := by
  refine Met.ofW (cc := cJ7_copyOf_9075b) (maxL := 3) (ret := (some (.array .byte))) (by decide) rfl ?_
  intro p e s m args below meth c s₁ B hml hv
  obtain ⟨rfl, hsz, ⟨hK, hN⟩, hI⟩ := hv
  have hx := B.exec
  have hb := B.bytes
  have hr := B.returns
  have hts := atoms_spec (ws := wsJ7_copyOf_9075b) B.pre
  have hown : s.vm.findClass RJ7 = some m.cls := findClass_of_methodNamed B.named
  subst hsz
  have hA : ∀ q : Nat, s.heap.size ≤ q → jA2 s.heap.size q := fun q h => h
  generalize jA2 s.heap.size = A at hA ⊢
  have hS : va_S A s.heap s.heap [] := va_S.rf
  have hl := lv_entry ([.ref a, .int (kz n)]) (n := 3) (Nat.le_of_ble_eq_true rfl)
  rw [lg_entry_eq]
  generalize (lg_sl ([.ref a, .int (kz n)]) ++ List.replicate (3 - (lg_sl ([.ref a, .int (kz n)])).length) Slot.unset).toArray = ls at hl ⊢
  have hl : lv_has ls 3 [(0, .ref a), (1, .int (kz n))] := hl
  refine lv_iload_n hx hb dJ7_copyOf_9075b_0 rfl (lv_at hl 1 rfl) ?_
  refine lv_aload_n hx hb dJ7_copyOf_9075b_1 rfl (lv_at hl 0 rfl) ?_
  obtain ⟨f1, c_f1, k_f1⟩ := jv_o200 hI g_a
  refine va_alen hx hb hK (at_P c_f1) 0 1 rfl rfl (v := kz 60) rfl dJ7_copyOf_9075b_2 ?_
  refine iz_ne (tgt := 14) hx hb dJ7_copyOf_9075b_3 (by decide) (by unfold rg2; omega) (fun br => ?_) (fun br => absurd br (by omega))
  refine lv_iload_n hx hb dJ7_copyOf_9075b_14 rfl (lv_at hl 1 rfl) ?_
  refine jz_newa (atype := .byte) (ty := .byte) (N := n.toNat) hx hb (hts (.arrayClass .byte) (by decide +kernel)) rfl hK 1 rfl hS (a0 := (n.toNat, .inl (fun _ => 0))) rfl (by omega) (by show n.toNat * 1 ≤ _; omega) (Nat.le_of_ble_eq_true rfl) (by show 0 + n.toNat ≤ 16; omega) dJ7_copyOf_9075b_15 (fun x H hx9 c_x oq hz9 hS => ?_)
  have c_f1 := c_f1.kept (oq _ c_f1.lt)
  refine lv_astore_n (lv' := [(2, .ref x), (0, .ref a), (1, .int (kz n))]) hx hb dJ7_copyOf_9075b_17 rfl hl (by decide) rfl (fun ls hl => ?_)
  refine lv_aload_n hx hb dJ7_copyOf_9075b_18 rfl (lv_at hl 1 rfl) ?_
  refine lv_iconst (v := kz 0) hx hb dJ7_copyOf_9075b_19 rfl ?_
  refine lv_aload_n hx hb dJ7_copyOf_9075b_20 rfl (lv_at hl 0 rfl) ?_
  refine lv_iconst (v := kz 0) hx hb dJ7_copyOf_9075b_21 rfl ?_
  refine lv_aload_n hx hb dJ7_copyOf_9075b_22 rfl (lv_at hl 1 rfl) ?_
  refine va_alen hx hb hK (at_P c_f1) 0 1 rfl rfl (v := kz 60) rfl dJ7_copyOf_9075b_23 ?_
  refine lv_iload_n hx hb dJ7_copyOf_9075b_24 rfl (lv_at hl 2 rfl) ?_
  refine va_mmin hx hb (by rw [hml]; exact hl.1.symm) hown (hts (.methodLink RJ7 304 Lib.Math.min.name) (by decide +kernel)) (hts (.static Lib.Math.min.name) (by decide +kernel)) (hts (.initialized "java/lang/Math") (by decide +kernel)) (hts (.code Lib.Math.min.name Lib.Math.min.code 2 (some .int)) (by decide +kernel)) (Nat.le_of_ble_eq_true rfl) (Nat.le_of_ble_eq_true rfl) (Nat.le_of_ble_eq_true rfl) (by show 0 + n.toNat ≤ 16; omega) dJ7_copyOf_9075b_25 ?_
  refine iz_any (fun z za zb ze => ?_)
  have zm := kz_min (x := 60) (y := n) ze (by unfold rg2; omega) (by omega)
  refine iz_copyi (ty := .byte) hx hb (by rw [hml]; exact hl.1.symm) hown (hts (.methodLink RJ7 150 arraycopyName) (by decide +kernel)) (hts (.native arraycopyName) (by decide +kernel)) (hts (.static arraycopyName) (by decide +kernel)) (hts (.initialized "java/lang/System") (by decide +kernel)) hK 1 c_f1 c_x hS (hA _ (by omega)) rfl rfl (n := z) (by omega) k_f1 (Nat.le_of_ble_eq_true rfl) (Nat.le_of_ble_eq_true rfl) dJ7_copyOf_9075b_28 (fun H locs c9 oq9 hS => ?_)
  refine lv_aload_n hx hb dJ7_copyOf_9075b_31 rfl (lv_at hl 0 rfl) ?_
  refine W.widen (k := 1) (n := 16) (Nat.le_refl _) (by omega) ?_
  exact W.aret (v := .ref x) hx hb hr (Or.inr ⟨_, rfl⟩) (Or.inr ⟨_, rfl⟩) (fun t9 ht hW => ⟨⟨_, x, rfl, trivial, jK_warm hW ⟨hK, hN⟩, hx9, by rw [ht]; exact c9⟩, hS.F ht⟩) hS.2.2 dJ7_copyOf_9075b_32
set_option maxHeartbeats 4000000 in
set_option maxRecDepth 100000 in
/-- Arrays.fill over a row that has no kind yet -/
theorem k_fill (l : Launch) (dC : Nat → ClassId) (dI : Nat → Nat → Nat) (ca : Nat → ClassId) (a n0 : Nat) (f : Nat → Int32) (v : Int) : Met l yJ7_fill_53178 wsJ7_fill_53178 ({ frames := 0, cells := 0, slots := 0, locals := 0 }) (va_Pc [.ref a, .int (kz v)] (fun U => U.heap.size = n0 ∧ jK (dC, dI) ca U ∧ va_at (dC, dI) vwCl (a, .inl (ca 20, 36, .inl f)) U.heap)) (va_Qv (fun (u : Nat → Int32) => ∀ j : Nat, j < 36 → u j = kz v) (fun u U => jK (dC, dI) ca U ∧ va_at (dC, dI) vwCl (a, .inl (ca 20, 36, .inl u)) U.heap) (jA a n0)) 0 0 (jA a n0) := by
  refine Met.ofW (cc := cJ7_fill_53178) (maxL := 4) (ret := none) (by decide) rfl ?_
  intro p e s m args below meth c s₁ B hml hv
  obtain ⟨rfl, hsz, ⟨hK, hN⟩, c_a⟩ := hv
  have hx := B.exec
  have hb := B.bytes
  have hr := B.returns
  have hts := atoms_spec (ws := wsJ7_fill_53178) B.pre
  have hown : s.vm.findClass RJ7 = some m.cls := findClass_of_methodNamed B.named
  subst hsz
  have hA0 : jA a s.heap.size a := Or.inl rfl
  generalize jA a s.heap.size = A at hA0 ⊢
  have hS : va_S A s.heap s.heap [] := va_S.rf
  have hl := lv_entry ([.ref a, .int (kz v)]) (n := 4) (Nat.le_of_ble_eq_true rfl)
  rw [lg_entry_eq]
  generalize (lg_sl ([.ref a, .int (kz v)]) ++ List.replicate (4 - (lg_sl ([.ref a, .int (kz v)])).length) Slot.unset).toArray = ls at hl ⊢
  have hl : lv_has ls 4 [(0, .ref a), (1, .int (kz v))] := hl
  refine lv_iconst (v := kz 0) hx hb dJ7_fill_53178_0 rfl ?_
  refine lv_istore_n (lv' := [(2, .int (kz 0)), (0, .ref a), (1, .int (kz v))]) hx hb dJ7_fill_53178_1 rfl hl (by decide) rfl (fun ls hl => ?_)
  refine lv_aload_n hx hb dJ7_fill_53178_2 rfl (lv_at hl 1 rfl) ?_
  refine va_alen hx hb hK (at_P c_a) 0 0 rfl rfl (v := kz 36) rfl dJ7_fill_53178_3 ?_
  refine lv_istore_n (lv' := [(3, .int (kz 36)), (2, .int (kz 0)), (0, .ref a), (1, .int (kz v))]) hx hb dJ7_fill_53178_4 rfl hl (by decide) rfl (fun ls hl => ?_)
  refine iz_loopA1 (α := Nat → Int32) (P := fun N9 f k H locs ls => (0 ≤ k) ∧ (k ≤ 36) ∧ 36 - k ≤ (N9 : Int) ∧ lv_has ls 4 [(3, .int (kz 36)), (2, .int (kz k)), (0, .ref a), (1, .int (kz v))] ∧ va_at (dC, dI) vwCl (a, .inl (ca 20, 36, .inl f)) H ∧ va_S A s.heap H locs ∧ (∀ j : Nat, (j : Int) < k → f j = kz v)) 100000 f (x0 := 0) ?_ ⟨by omega, by omega, by omega, lv_sub hl [0, 1, 2, 3] rfl, c_a, hS, fun j hj => by omega⟩
  intro n2 f k H locs ls ⟨n2f0, n2f1, n2f2, hl, c_a, hS, hf⟩ ih
  refine lv_iload_n hx hb dJ7_fill_53178_5 rfl (lv_at hl 1 rfl) ?_
  refine lv_iload_n hx hb dJ7_fill_53178_6 rfl (lv_at hl 0 rfl) ?_
  refine iz_ge (tgt := 20) hx hb dJ7_fill_53178_7 (by decide) (by unfold rg2; omega) (fun br => ?_) (fun br => ?_)
  · exact W.vret hx hb hr (fun t9 ht hW => ⟨⟨f, rfl, fun j hj => hf j (by omega), jK_warm hW ⟨hK, hN⟩, by rw [ht]; exact c_a⟩, hS.F ht⟩) hS.2.2 dJ7_fill_53178_20
  · refine lv_aload_n hx hb dJ7_fill_53178_10 rfl (lv_at hl 2 rfl) ?_
    refine lv_iload_n hx hb dJ7_fill_53178_11 rfl (lv_at hl 1 rfl) ?_
    refine lv_iload_n hx hb dJ7_fill_53178_12 rfl (lv_at hl 3 rfl) ?_
    refine iz_iast hx hb hK 0 c_a hS hA0 rfl (by omega) (by decide) dJ7_fill_53178_13 (fun H locs c9 oq hS => ?_)
    refine lv_iinc (v := kz (k + 1)) (lv' := [(2, .int (kz (k + 1))), (3, .int (kz 36)), (0, .ref a), (1, .int (kz v))]) hx hb dJ7_fill_53178_14 hl (k := 1) rfl (kz_add k 1) (by decide) rfl (fun ls hl => ?_)
    refine lv_goto (tgt := 5) hx hb dJ7_fill_53178_17 (by decide) ?_
    refine ih (n2 - 1) (by omega) _ (k + 1) _ _ _ ⟨by omega, by omega, by omega, lv_sub hl [1, 0, 2, 3] rfl, c9, hS, fun j hj => ?_⟩
    unfold upd
    by_cases e9 : j = k.toNat
    · rw [if_pos e9]
    · rw [if_neg e9]
      exact hf j (by omega)
