/-! the reference's constructor -/
def kL : List kTy := [(100, 21, 60, 0, 0), (103, 21, 320, 0, 0), (104, 20, 40, 0, 8), (105, 20, 40, 0, 5), (106, 20, 40, 0, 19), (107, 20, 40, -2147483648, 2147483647), (108, 22, 40, 0, 0), (110, 21, 240, 0, 0), (111, 20, 24, 0, 3), (112, 20, 24, 0, 3), (113, 20, 24, 0, 4), (114, 20, 24, -2147483648, 2147483647), (115, 20, 24, -2147483648, 2147483647), (116, 20, 24, -2147483648, 2147483647), (117, 22, 36, 0, 0), (118, 20, 36, -1, 5), (119, 20, 20, -2147483648, 2147483647), (123, 20, 40, 0, 39), (124, 20, 40, -1, 23), (125, 21, 480, 0, 0), (127, 21, 40, 0, 0), (129, 20, 1600, -2147483648, 2147483647), (130, 22, 6560, 0, 0), (131, 23, 6560, 0, 0), (132, 20, 52480, -2147483648, 2147483647), (133, 20, 6560, 0, 8), (140, 20, 8, -2147483648, 2147483647), (141, 20, 8, 0, 40), (142, 20, 320, 0, 39), (143, 20, 320, -2147483648, 2147483647), (144, 20, 40, 0, 8), (145, 23, 9600, 0, 0), (147, 20, 31, 0, 40), (148, 20, 1860, -2147483648, 2147483647)]
def kIx (k : Nat) : Nat := [0, 0, 0, 1, 2, 3, 4, 5, 6, 0, 7, 8, 9, 10, 11, 12, 13, 14, 15, 16, 0, 0, 0, 17, 18, 19, 0, 20, 0, 21, 22, 23, 24, 25, 0, 0, 0, 0, 0, 0, 26, 27, 28, 29, 30, 31, 0, 32, 33].getD k 0
def mX (n0 : Nat) : kGh := (fun q => if q < n0 then (0, 0, 0, 0, 0) else kL.getD (q - n0) (0, 0, 0, 0, 0), fun _ => 0)
def mam (n0 k : Nat) : Nat := n0 + kIx k
def mzi : Nat → Int := fun k => if k = 20 then 1 else 0
def mzl : Nat → Int64 := fun _ => 0
theorem mX_lt {n0 q : Nat} (h : q < n0) : (mX n0).1 q = (0, 0, 0, 0, 0) := if_pos h
theorem mX_ge {n0 q : Nat} (h : ¬ q < n0) : (mX n0).1 q = kL.getD (q - n0) (0, 0, 0, 0, 0) := if_neg h
def iw (D : va_G) (ca : Nat → ClassId) (n0 i : Nat) (H : Heap) : Prop := H.size = n0 + i ∧ ∀ j : Nat, j < i → ∃ x : va_E, va_at D vwCl (n0 + j, x) H ∧ iv_e ca (mX n0) (n0 + j) (kL.getD j (0, 0, 0, 0, 0)) x
theorem iw_new {D : va_G} {ca : Nat → ClassId} {n0 i : Nat} {H H1 : Heap} {e : va_E} {t : kTy} (h : iw D ca n0 i H) (hc : va_at D vwCl (n0 + i, e) H1) (oq : ∀ q : Nat, q < H.size → H1[q]? = H[q]?) (hz : H1.size = H.size + 1) (ht : kL.getD i (0, 0, 0, 0, 0) = t) (he : iv_e ca (mX n0) (n0 + i) t e) : iw D ca n0 (i + 1) H1 := by
  refine ⟨by rw [hz, h.1]; omega, fun j hj => ?_⟩
  by_cases q : j = i
  · subst q
    exact ⟨e, hc, by rw [ht]; exact he⟩
  · obtain ⟨x, h1, h2⟩ := h.2 j (by omega)
    exact ⟨x, h1.kept (oq _ h1.lt), h2⟩
theorem iw_put {D : va_G} {ca : Nat → ClassId} {n0 i a : Nat} {H H1 : Heap} (h : iw D ca n0 i H) (ha : a < n0) (oq : ∀ q : Nat, q ≠ a → H1[q]? = H[q]?) (hz : H1.size = H.size) : iw D ca n0 i H1 := by
  refine ⟨by rw [hz, h.1], fun j hj => ?_⟩
  obtain ⟨x, h1, h2⟩ := h.2 j hj
  exact ⟨x, h1.kept (oq _ (by omega)), h2⟩
theorem iw_sz {a : Nat} {H H1 : Heap} (h1 : a < H.size) (h2 : a < H1.size) (oq : ∀ q : Nat, q ≠ a → H1[q]? = H[q]?) : H1.size = H.size := by
  rcases Nat.lt_trichotomy H1.size H.size with h | h | h
  · have e := oq H1.size (by omega)
    rw [Array.getElem?_eq_none (Nat.le_refl _), Array.getElem?_eq_getElem h] at e
    cases e
  · exact h
  · have e := oq H.size (by omega)
    rw [Array.getElem?_eq_none (xs := H) (Nat.le_refl _), Array.getElem?_eq_getElem h] at e
    cases e
theorem iw_iv {D : va_G} {ca : Nat → ClassId} {A : Nat → Prop} {n0 : Nat} {H : Heap} (h : iw D ca n0 34 H) (hA : ∀ q : Nat, n0 ≤ q → A q) : iv D ca A (mX n0) H := by
  intro a ha
  by_cases e : a < n0
  · exact absurd (by rw [mX_lt e]) ha
  · have e2 : a - n0 < 34 := by
      rcases Nat.lt_or_ge (a - n0) 34 with h9 | h9
      · exact h9
      · refine absurd ?_ ha
        rw [mX_ge e, List.getD_eq_getElem?_getD, List.getElem?_eq_none (show kL.length ≤ a - n0 from h9)]
        rfl
    obtain ⟨x, h1, h2⟩ := h.2 (a - n0) e2
    rw [show n0 + (a - n0) = a by omega] at h1 h2
    exact ⟨hA a (by omega), x, h1, by rw [mX_ge e]; exact h2⟩
theorem kL_ok : ∀ k : Nat, k < 49 → ((mTl.getD k (0, 0, 0, 0, 0)).2.1 = 0 ∨ kL.getD (kIx k) (0, 0, 0, 0, 0) = mTl.getD k (0, 0, 0, 0, 0)) := by decide +kernel
theorem mX_S {A : Nat → Prop} {n0 m0 : Nat} (h : m0 < n0) (hA : A m0) : mS (mX n0) A m0 (mam n0) := by
  refine ⟨fun k t hk ht => ?_, by rw [mX_lt h], hA, fun _ _ _ _ _ _ => rfl⟩
  have lk : k < 49 := (List.getElem?_eq_some_iff.mp hk).1
  have e : mTl.getD k (0, 0, 0, 0, 0) = t := by rw [List.getD_eq_getElem?_getD, hk]; rfl
  have h9 : kL.getD (kIx k) (0, 0, 0, 0, 0) = mTl.getD k (0, 0, 0, 0, 0) := (kL_ok k lk).elim (fun h8 => absurd (by rw [e] at h8; exact h8) ht) id
  rw [mX_ge (by unfold mam; omega), show mam n0 k - n0 = kIx k by unfold mam; omega, h9, e]
theorem mX_Z (n0 : Nat) : mZ (mX n0) (mam n0) mzi := ⟨by decide, by decide, by decide, by decide, by decide, by decide, by decide, by decide, by decide, by decide, by decide, by decide, by decide, show (0 : Int) ≤ ((0 : Nat) : Int) by decide, show (0 : Int) ≤ ((0 : Nat) : Int) by decide⟩
theorem ok20_z {n0 a n : Nat} {lo hi : Int} (h : lo ≤ 0 ∧ 0 ≤ hi) : ok20 (mX n0) a n lo hi (fun _ => 0) := by
  intro z hz
  have e : ge1 (fun _ => (0 : Int32)) z = 0 := rfl
  rw [e]
  refine ⟨h.1, h.2, fun q => ?_⟩
  have q : z < ((0 : Nat) : Int) := q
  omega
set_option maxHeartbeats 4000000 in
set_option maxRecDepth 100000 in
theorem m_Model (l : Launch) (dC : Nat → ClassId) (dI : Nat → Nat → Nat) (ca : Nat → ClassId) (m0 n0 : Nat) (h0 : m0 < n0) : Met l yX12_init wsX12_init ({ frames := 1, cells := 34, slots := 87603, locals := 12 }) (va_Pc [.ref m0] (fun U => U.heap.size = n0 ∧ va_K (dC, dI) vwCl (k_tys ca) U ∧ va_at (dC, dI) vwCl (m0, .inr (12, [.null, .int (kz 0), .int (kz 0), .null, .null, .null, .null, .null, .null, .int (kz 0), .null, .null, .null, .null, .null, .null, .null, .null, .null, .null, .int (kz 0), .int (kz 0), .int (kz 0), .null, .null, .null, .int (kz 0), .null, .int (kz 0), .null, .null, .null, .null, .null, .int (kz 0), .int (kz 0), .long 0, .long 0, .int (kz 0), .int (kz 0), .null, .null, .null, .null, .null, .null, .int (kz 0), .null, .null])) U.heap)) (va_Qv (fun (_ : Unit) => True) (fun _ U => va_K (dC, dI) vwCl (k_tys ca) U ∧ mI (dC, dI) ca (jA m0 n0) (mX n0) m0 (mam n0) mzi mzl U.heap) (jA m0 n0)) 34 87603 (jA m0 n0) := by
  refine Met.ofW (cc := cX12_init) (maxL := 2) (ret := none) (by decide) rfl ?_
  intro p e s m args below meth c s₁ B hml hv
  obtain ⟨rfl, hsz, hK, hO⟩ := hv
  have hx := B.exec
  have hb := B.bytes
  have hr := B.returns
  have hts := atoms_spec (ws := wsX12_init) B.pre
  have hown : s.vm.findClass RX12 = some m.cls := findClass_of_methodNamed B.named
  have hin2 : meth.name = "<init>" := (name_of_methodNamed B.named B.method).1
  have hin : ∀ w ∈ u_ws RX12 TX12 49, w ∈ wsX12_init := by decide +kernel
  generalize hAe : jA m0 n0 = A
  have hA : ∀ q : Nat, n0 ≤ q → A q := fun q h => by rw [← hAe]; exact Or.inr h
  have hA0 : A m0 := by rw [← hAe]; exact Or.inl rfl
  obtain ⟨H, hH⟩ : ∃ H : Heap, H = s.heap := ⟨_, rfl⟩
  have hS : va_S A s.heap H [] := by rw [hH]; exact va_S.rf
  have hw : iw (dC, dI) ca n0 0 H := ⟨by rw [hH]; exact hsz, fun j h9 => absurd h9 (Nat.not_lt_zero j)⟩
  rw [← hH] at hO ⊢
  clear hH
  have hl := lv_entry ([.ref m0]) (n := 2) (Nat.le_of_ble_eq_true rfl)
  rw [lg_entry_eq]
  generalize (lg_sl ([.ref m0]) ++ List.replicate (2 - (lg_sl ([.ref m0])).length) Slot.unset).toArray = ls at hl ⊢
  have hl : lv_has ls 2 [(0, .ref m0)] := hl
  refine lv_aload_n hx hb dX12_init_0 rfl (lv_at hl 0 rfl) ?_
  refine W.objInit hx hb hown (hts (.methodLink RX12 1 objectInit) (by decide +kernel)) (hts (.instanceMethod objectInit) (by decide +kernel)) (hts _ (List.mem_of_getElem? (i := 3) rfl)) rfl (by rw [hml]; exact hl.1) rfl dX12_init_1 (Nat.le_of_ble_eq_true rfl) (Nat.le_of_ble_eq_true rfl) ?_
  refine W.eq (g2 := F0 m 4 ls []) rfl ?_
  refine lv_aload_n hx hb dX12_init_4 rfl (lv_at hl 0 rfl) ?_
  refine lv_bipush (v := kz 60) hx hb dX12_init_5 (by decide) ?_
  refine jz_newa (atype := .byte) (ty := .byte) (N := 60) hx hb (hts (.arrayClass .byte) (by decide +kernel)) rfl hK 1 rfl hS (a0 := (60, .inl (fun _ => 0))) rfl (by decide) (by decide) (Nat.le_of_ble_eq_true rfl) (Nat.le_of_ble_eq_true rfl) dX12_init_7 (fun x9 H hx9 c9 oq hz9 hS => ?_)
  have hx8 : x9 = n0 + 0 := hx9.trans hw.1
  rw [hx8] at c9 ⊢
  have hO := hO.kept (oq _ hO.lt)
  have hw := iw_new (t := (100, 21, 60, 0, 0)) hw c9 oq hz9 rfl iv_e21
  clear oq c9 hz9 hx9 hx8
  refine iz_putF (D := (dC, dI)) (ci := 12) (v := .ref (n0 + 0)) (ty := .array .byte) (C := RX12) (T := TX12) (N := 49) hx hb hts hin tyX12 tyX12_ok nmX12 hown hK hO hS hA0 rfl 0 (by decide) (hts (.fieldLink RX12 7 "JoinBenchModel" "tape" "[B") (by decide +kernel)) (fun _ h9 => h9) rfl hin2 rfl (by decide +kernel) rfl rfl (Nat.le_of_ble_eq_true rfl) dX12_init_9 (fun H locs c9 oq hS hz9 => ?_)
  have hw := iw_put hw h0 oq hz9
  have hO : va_at (dC, dI) vwCl (m0, .inr (12, [.ref (n0 + 0), .int (kz 0), .int (kz 0), .null, .null, .null, .null, .null, .null, .int (kz 0), .null, .null, .null, .null, .null, .null, .null, .null, .null, .null, .int (kz 0), .int (kz 0), .int (kz 0), .null, .null, .null, .int (kz 0), .null, .int (kz 0), .null, .null, .null, .null, .null, .int (kz 0), .int (kz 0), .long 0, .long 0, .int (kz 0), .int (kz 0), .null, .null, .null, .null, .null, .null, .int (kz 0), .null, .null])) H := c9
  clear oq c9 hz9
  refine lv_aload_n hx hb dX12_init_12 rfl (lv_at hl 0 rfl) ?_
  refine lv_sipush (v := kz 320) hx hb dX12_init_13 (by decide) ?_
  refine jz_newa (atype := .byte) (ty := .byte) (N := 320) hx hb (hts (.arrayClass .byte) (by decide +kernel)) rfl hK 1 rfl hS (a0 := (320, .inl (fun _ => 0))) rfl (by decide) (by decide) (Nat.le_of_ble_eq_true rfl) (Nat.le_of_ble_eq_true rfl) dX12_init_16 (fun x9 H hx9 c9 oq hz9 hS => ?_)
  have hx8 : x9 = n0 + 1 := hx9.trans hw.1
  rw [hx8] at c9 ⊢
  have hO := hO.kept (oq _ hO.lt)
  have hw := iw_new (t := (103, 21, 320, 0, 0)) hw c9 oq hz9 rfl iv_e21
  clear oq c9 hz9 hx9 hx8
  refine iz_putF (D := (dC, dI)) (ci := 12) (v := .ref (n0 + 1)) (ty := .array .byte) (C := RX12) (T := TX12) (N := 49) hx hb hts hin tyX12 tyX12_ok nmX12 hown hK hO hS hA0 rfl 3 (by decide) (hts (.fieldLink RX12 13 "JoinBenchModel" "letters" "[B") (by decide +kernel)) (fun _ h9 => h9) rfl hin2 rfl (by decide +kernel) rfl rfl (Nat.le_of_ble_eq_true rfl) dX12_init_18 (fun H locs c9 oq hS hz9 => ?_)
  have hw := iw_put hw h0 oq hz9
  have hO : va_at (dC, dI) vwCl (m0, .inr (12, [.ref (n0 + 0), .int (kz 0), .int (kz 0), .ref (n0 + 1), .null, .null, .null, .null, .null, .int (kz 0), .null, .null, .null, .null, .null, .null, .null, .null, .null, .null, .int (kz 0), .int (kz 0), .int (kz 0), .null, .null, .null, .int (kz 0), .null, .int (kz 0), .null, .null, .null, .null, .null, .int (kz 0), .int (kz 0), .long 0, .long 0, .int (kz 0), .int (kz 0), .null, .null, .null, .null, .null, .null, .int (kz 0), .null, .null])) H := c9
  clear oq c9 hz9
  refine lv_aload_n hx hb dX12_init_21 rfl (lv_at hl 0 rfl) ?_
  refine lv_bipush (v := kz 40) hx hb dX12_init_22 (by decide) ?_
  refine jz_newa (atype := .int) (ty := .int) (N := 40) hx hb (hts (.arrayClass .int) (by decide +kernel)) rfl hK 0 rfl hS (a0 := (40, .inl (fun _ => 0))) rfl (by decide) (by decide) (Nat.le_of_ble_eq_true rfl) (Nat.le_of_ble_eq_true rfl) dX12_init_24 (fun x9 H hx9 c9 oq hz9 hS => ?_)
  have hx8 : x9 = n0 + 2 := hx9.trans hw.1
  rw [hx8] at c9 ⊢
  have hO := hO.kept (oq _ hO.lt)
  have hw := iw_new (t := (104, 20, 40, 0, 8)) hw c9 oq hz9 rfl (iv_e20 (ok20_z (by decide)))
  clear oq c9 hz9 hx9 hx8
  refine iz_putF (D := (dC, dI)) (ci := 12) (v := .ref (n0 + 2)) (ty := .array .int) (C := RX12) (T := TX12) (N := 49) hx hb hts hin tyX12 tyX12_ok nmX12 hown hK hO hS hA0 rfl 4 (by decide) (hts (.fieldLink RX12 16 "JoinBenchModel" "size" "[I") (by decide +kernel)) (fun _ h9 => h9) rfl hin2 rfl (by decide +kernel) rfl rfl (Nat.le_of_ble_eq_true rfl) dX12_init_26 (fun H locs c9 oq hS hz9 => ?_)
  have hw := iw_put hw h0 oq hz9
  have hO : va_at (dC, dI) vwCl (m0, .inr (12, [.ref (n0 + 0), .int (kz 0), .int (kz 0), .ref (n0 + 1), .ref (n0 + 2), .null, .null, .null, .null, .int (kz 0), .null, .null, .null, .null, .null, .null, .null, .null, .null, .null, .int (kz 0), .int (kz 0), .int (kz 0), .null, .null, .null, .int (kz 0), .null, .int (kz 0), .null, .null, .null, .null, .null, .int (kz 0), .int (kz 0), .long 0, .long 0, .int (kz 0), .int (kz 0), .null, .null, .null, .null, .null, .null, .int (kz 0), .null, .null])) H := c9
  clear oq c9 hz9
  refine lv_aload_n hx hb dX12_init_29 rfl (lv_at hl 0 rfl) ?_
  refine lv_bipush (v := kz 40) hx hb dX12_init_30 (by decide) ?_
  refine jz_newa (atype := .int) (ty := .int) (N := 40) hx hb (hts (.arrayClass .int) (by decide +kernel)) rfl hK 0 rfl hS (a0 := (40, .inl (fun _ => 0))) rfl (by decide) (by decide) (Nat.le_of_ble_eq_true rfl) (Nat.le_of_ble_eq_true rfl) dX12_init_32 (fun x9 H hx9 c9 oq hz9 hS => ?_)
  have hx8 : x9 = n0 + 3 := hx9.trans hw.1
  rw [hx8] at c9 ⊢
  have hO := hO.kept (oq _ hO.lt)
  have hw := iw_new (t := (105, 20, 40, 0, 5)) hw c9 oq hz9 rfl (iv_e20 (ok20_z (by decide)))
  clear oq c9 hz9 hx9 hx8
  refine iz_putF (D := (dC, dI)) (ci := 12) (v := .ref (n0 + 3)) (ty := .array .int) (C := RX12) (T := TX12) (N := 49) hx hb hts hin tyX12 tyX12_ok nmX12 hown hK hO hS hA0 rfl 5 (by decide) (hts (.fieldLink RX12 20 "JoinBenchModel" "kind" "[I") (by decide +kernel)) (fun _ h9 => h9) rfl hin2 rfl (by decide +kernel) rfl rfl (Nat.le_of_ble_eq_true rfl) dX12_init_34 (fun H locs c9 oq hS hz9 => ?_)
  have hw := iw_put hw h0 oq hz9
  have hO : va_at (dC, dI) vwCl (m0, .inr (12, [.ref (n0 + 0), .int (kz 0), .int (kz 0), .ref (n0 + 1), .ref (n0 + 2), .ref (n0 + 3), .null, .null, .null, .int (kz 0), .null, .null, .null, .null, .null, .null, .null, .null, .null, .null, .int (kz 0), .int (kz 0), .int (kz 0), .null, .null, .null, .int (kz 0), .null, .int (kz 0), .null, .null, .null, .null, .null, .int (kz 0), .int (kz 0), .long 0, .long 0, .int (kz 0), .int (kz 0), .null, .null, .null, .null, .null, .null, .int (kz 0), .null, .null])) H := c9
  clear oq c9 hz9
  refine lv_aload_n hx hb dX12_init_37 rfl (lv_at hl 0 rfl) ?_
  refine lv_bipush (v := kz 40) hx hb dX12_init_38 (by decide) ?_
  refine jz_newa (atype := .int) (ty := .int) (N := 40) hx hb (hts (.arrayClass .int) (by decide +kernel)) rfl hK 0 rfl hS (a0 := (40, .inl (fun _ => 0))) rfl (by decide) (by decide) (Nat.le_of_ble_eq_true rfl) (Nat.le_of_ble_eq_true rfl) dX12_init_40 (fun x9 H hx9 c9 oq hz9 hS => ?_)
  have hx8 : x9 = n0 + 4 := hx9.trans hw.1
  rw [hx8] at c9 ⊢
  have hO := hO.kept (oq _ hO.lt)
  have hw := iw_new (t := (106, 20, 40, 0, 19)) hw c9 oq hz9 rfl (iv_e20 (ok20_z (by decide)))
  clear oq c9 hz9 hx9 hx8
  refine iz_putF (D := (dC, dI)) (ci := 12) (v := .ref (n0 + 4)) (ty := .array .int) (C := RX12) (T := TX12) (N := 49) hx hb hts hin tyX12 tyX12_ok nmX12 hown hK hO hS hA0 rfl 6 (by decide) (hts (.fieldLink RX12 23 "JoinBenchModel" "stem" "[I") (by decide +kernel)) (fun _ h9 => h9) rfl hin2 rfl (by decide +kernel) rfl rfl (Nat.le_of_ble_eq_true rfl) dX12_init_42 (fun H locs c9 oq hS hz9 => ?_)
  have hw := iw_put hw h0 oq hz9
  have hO : va_at (dC, dI) vwCl (m0, .inr (12, [.ref (n0 + 0), .int (kz 0), .int (kz 0), .ref (n0 + 1), .ref (n0 + 2), .ref (n0 + 3), .ref (n0 + 4), .null, .null, .int (kz 0), .null, .null, .null, .null, .null, .null, .null, .null, .null, .null, .int (kz 0), .int (kz 0), .int (kz 0), .null, .null, .null, .int (kz 0), .null, .int (kz 0), .null, .null, .null, .null, .null, .int (kz 0), .int (kz 0), .long 0, .long 0, .int (kz 0), .int (kz 0), .null, .null, .null, .null, .null, .null, .int (kz 0), .null, .null])) H := c9
  clear oq c9 hz9
  refine lv_aload_n hx hb dX12_init_45 rfl (lv_at hl 0 rfl) ?_
  refine lv_bipush (v := kz 40) hx hb dX12_init_46 (by decide) ?_
  refine jz_newa (atype := .int) (ty := .int) (N := 40) hx hb (hts (.arrayClass .int) (by decide +kernel)) rfl hK 0 rfl hS (a0 := (40, .inl (fun _ => 0))) rfl (by decide) (by decide) (Nat.le_of_ble_eq_true rfl) (Nat.le_of_ble_eq_true rfl) dX12_init_48 (fun x9 H hx9 c9 oq hz9 hS => ?_)
  have hx8 : x9 = n0 + 5 := hx9.trans hw.1
  rw [hx8] at c9 ⊢
  have hO := hO.kept (oq _ hO.lt)
  have hw := iw_new (t := (107, 20, 40, -2147483648, 2147483647)) hw c9 oq hz9 rfl (iv_e20 (ok20_z (by decide)))
  clear oq c9 hz9 hx9 hx8
  refine iz_putF (D := (dC, dI)) (ci := 12) (v := .ref (n0 + 5)) (ty := .array .int) (C := RX12) (T := TX12) (N := 49) hx hb hts hin tyX12 tyX12_ok nmX12 hown hK hO hS hA0 rfl 7 (by decide) (hts (.fieldLink RX12 26 "JoinBenchModel" "cost" "[I") (by decide +kernel)) (fun _ h9 => h9) rfl hin2 rfl (by decide +kernel) rfl rfl (Nat.le_of_ble_eq_true rfl) dX12_init_50 (fun H locs c9 oq hS hz9 => ?_)
  have hw := iw_put hw h0 oq hz9
  have hO : va_at (dC, dI) vwCl (m0, .inr (12, [.ref (n0 + 0), .int (kz 0), .int (kz 0), .ref (n0 + 1), .ref (n0 + 2), .ref (n0 + 3), .ref (n0 + 4), .ref (n0 + 5), .null, .int (kz 0), .null, .null, .null, .null, .null, .null, .null, .null, .null, .null, .int (kz 0), .int (kz 0), .int (kz 0), .null, .null, .null, .int (kz 0), .null, .int (kz 0), .null, .null, .null, .null, .null, .int (kz 0), .int (kz 0), .long 0, .long 0, .int (kz 0), .int (kz 0), .null, .null, .null, .null, .null, .null, .int (kz 0), .null, .null])) H := c9
  clear oq c9 hz9
  refine lv_aload_n hx hb dX12_init_53 rfl (lv_at hl 0 rfl) ?_
  refine lv_bipush (v := kz 40) hx hb dX12_init_54 (by decide) ?_
  refine jz_newa (atype := .boolean) (ty := .boolean) (N := 40) hx hb (hts (.arrayClass .boolean) (by decide +kernel)) rfl hK 2 rfl hS (a0 := (40, .inl (fun _ => 0))) rfl (by decide) (by decide) (Nat.le_of_ble_eq_true rfl) (Nat.le_of_ble_eq_true rfl) dX12_init_56 (fun x9 H hx9 c9 oq hz9 hS => ?_)
  have hx8 : x9 = n0 + 6 := hx9.trans hw.1
  rw [hx8] at c9 ⊢
  have hO := hO.kept (oq _ hO.lt)
  have hw := iw_new (t := (108, 22, 40, 0, 0)) hw c9 oq hz9 rfl iv_e22
  clear oq c9 hz9 hx9 hx8
  refine iz_putF (D := (dC, dI)) (ci := 12) (v := .ref (n0 + 6)) (ty := .array .boolean) (C := RX12) (T := TX12) (N := 49) hx hb hts hin tyX12 tyX12_ok nmX12 hown hK hO hS hA0 rfl 8 (by decide) (hts (.fieldLink RX12 29 "JoinBenchModel" "isKept" "[Z") (by decide +kernel)) (fun _ h9 => h9) rfl hin2 rfl (by decide +kernel) rfl rfl (Nat.le_of_ble_eq_true rfl) dX12_init_58 (fun H locs c9 oq hS hz9 => ?_)
  have hw := iw_put hw h0 oq hz9
  have hO : va_at (dC, dI) vwCl (m0, .inr (12, [.ref (n0 + 0), .int (kz 0), .int (kz 0), .ref (n0 + 1), .ref (n0 + 2), .ref (n0 + 3), .ref (n0 + 4), .ref (n0 + 5), .ref (n0 + 6), .int (kz 0), .null, .null, .null, .null, .null, .null, .null, .null, .null, .null, .int (kz 0), .int (kz 0), .int (kz 0), .null, .null, .null, .int (kz 0), .null, .int (kz 0), .null, .null, .null, .null, .null, .int (kz 0), .int (kz 0), .long 0, .long 0, .int (kz 0), .int (kz 0), .null, .null, .null, .null, .null, .null, .int (kz 0), .null, .null])) H := c9
  clear oq c9 hz9
  refine lv_aload_n hx hb dX12_init_61 rfl (lv_at hl 0 rfl) ?_
  refine lv_sipush (v := kz 240) hx hb dX12_init_62 (by decide) ?_
  refine jz_newa (atype := .byte) (ty := .byte) (N := 240) hx hb (hts (.arrayClass .byte) (by decide +kernel)) rfl hK 1 rfl hS (a0 := (240, .inl (fun _ => 0))) rfl (by decide) (by decide) (Nat.le_of_ble_eq_true rfl) (Nat.le_of_ble_eq_true rfl) dX12_init_65 (fun x9 H hx9 c9 oq hz9 hS => ?_)
  have hx8 : x9 = n0 + 7 := hx9.trans hw.1
  rw [hx8] at c9 ⊢
  have hO := hO.kept (oq _ hO.lt)
  have hw := iw_new (t := (110, 21, 240, 0, 0)) hw c9 oq hz9 rfl iv_e21
  clear oq c9 hz9 hx9 hx8
  refine iz_putF (D := (dC, dI)) (ci := 12) (v := .ref (n0 + 7)) (ty := .array .byte) (C := RX12) (T := TX12) (N := 49) hx hb hts hin tyX12 tyX12_ok nmX12 hown hK hO hS hA0 rfl 10 (by decide) (hts (.fieldLink RX12 33 "JoinBenchModel" "ruleText" "[B") (by decide +kernel)) (fun _ h9 => h9) rfl hin2 rfl (by decide +kernel) rfl rfl (Nat.le_of_ble_eq_true rfl) dX12_init_67 (fun H locs c9 oq hS hz9 => ?_)
  have hw := iw_put hw h0 oq hz9
  have hO : va_at (dC, dI) vwCl (m0, .inr (12, [.ref (n0 + 0), .int (kz 0), .int (kz 0), .ref (n0 + 1), .ref (n0 + 2), .ref (n0 + 3), .ref (n0 + 4), .ref (n0 + 5), .ref (n0 + 6), .int (kz 0), .ref (n0 + 7), .null, .null, .null, .null, .null, .null, .null, .null, .null, .int (kz 0), .int (kz 0), .int (kz 0), .null, .null, .null, .int (kz 0), .null, .int (kz 0), .null, .null, .null, .null, .null, .int (kz 0), .int (kz 0), .long 0, .long 0, .int (kz 0), .int (kz 0), .null, .null, .null, .null, .null, .null, .int (kz 0), .null, .null])) H := c9
  clear oq c9 hz9
  refine lv_aload_n hx hb dX12_init_70 rfl (lv_at hl 0 rfl) ?_
  refine lv_bipush (v := kz 24) hx hb dX12_init_71 (by decide) ?_
  refine jz_newa (atype := .int) (ty := .int) (N := 24) hx hb (hts (.arrayClass .int) (by decide +kernel)) rfl hK 0 rfl hS (a0 := (24, .inl (fun _ => 0))) rfl (by decide) (by decide) (Nat.le_of_ble_eq_true rfl) (Nat.le_of_ble_eq_true rfl) dX12_init_73 (fun x9 H hx9 c9 oq hz9 hS => ?_)
  have hx8 : x9 = n0 + 8 := hx9.trans hw.1
  rw [hx8] at c9 ⊢
  have hO := hO.kept (oq _ hO.lt)
  have hw := iw_new (t := (111, 20, 24, 0, 3)) hw c9 oq hz9 rfl (iv_e20 (ok20_z (by decide)))
  clear oq c9 hz9 hx9 hx8
  refine iz_putF (D := (dC, dI)) (ci := 12) (v := .ref (n0 + 8)) (ty := .array .int) (C := RX12) (T := TX12) (N := 49) hx hb hts hin tyX12 tyX12_ok nmX12 hown hK hO hS hA0 rfl 11 (by decide) (hts (.fieldLink RX12 36 "JoinBenchModel" "ends" "[I") (by decide +kernel)) (fun _ h9 => h9) rfl hin2 rfl (by decide +kernel) rfl rfl (Nat.le_of_ble_eq_true rfl) dX12_init_75 (fun H locs c9 oq hS hz9 => ?_)
  have hw := iw_put hw h0 oq hz9
  have hO : va_at (dC, dI) vwCl (m0, .inr (12, [.ref (n0 + 0), .int (kz 0), .int (kz 0), .ref (n0 + 1), .ref (n0 + 2), .ref (n0 + 3), .ref (n0 + 4), .ref (n0 + 5), .ref (n0 + 6), .int (kz 0), .ref (n0 + 7), .ref (n0 + 8), .null, .null, .null, .null, .null, .null, .null, .null, .int (kz 0), .int (kz 0), .int (kz 0), .null, .null, .null, .int (kz 0), .null, .int (kz 0), .null, .null, .null, .null, .null, .int (kz 0), .int (kz 0), .long 0, .long 0, .int (kz 0), .int (kz 0), .null, .null, .null, .null, .null, .null, .int (kz 0), .null, .null])) H := c9
  clear oq c9 hz9
  refine lv_aload_n hx hb dX12_init_78 rfl (lv_at hl 0 rfl) ?_
  refine lv_bipush (v := kz 24) hx hb dX12_init_79 (by decide) ?_
  refine jz_newa (atype := .int) (ty := .int) (N := 24) hx hb (hts (.arrayClass .int) (by decide +kernel)) rfl hK 0 rfl hS (a0 := (24, .inl (fun _ => 0))) rfl (by decide) (by decide) (Nat.le_of_ble_eq_true rfl) (Nat.le_of_ble_eq_true rfl) dX12_init_81 (fun x9 H hx9 c9 oq hz9 hS => ?_)
  have hx8 : x9 = n0 + 9 := hx9.trans hw.1
  rw [hx8] at c9 ⊢
  have hO := hO.kept (oq _ hO.lt)
  have hw := iw_new (t := (112, 20, 24, 0, 3)) hw c9 oq hz9 rfl (iv_e20 (ok20_z (by decide)))
  clear oq c9 hz9 hx9 hx8
  refine iz_putF (D := (dC, dI)) (ci := 12) (v := .ref (n0 + 9)) (ty := .array .int) (C := RX12) (T := TX12) (N := 49) hx hb hts hin tyX12 tyX12_ok nmX12 hown hK hO hS hA0 rfl 12 (by decide) (hts (.fieldLink RX12 39 "JoinBenchModel" "begins" "[I") (by decide +kernel)) (fun _ h9 => h9) rfl hin2 rfl (by decide +kernel) rfl rfl (Nat.le_of_ble_eq_true rfl) dX12_init_83 (fun H locs c9 oq hS hz9 => ?_)
  have hw := iw_put hw h0 oq hz9
  have hO : va_at (dC, dI) vwCl (m0, .inr (12, [.ref (n0 + 0), .int (kz 0), .int (kz 0), .ref (n0 + 1), .ref (n0 + 2), .ref (n0 + 3), .ref (n0 + 4), .ref (n0 + 5), .ref (n0 + 6), .int (kz 0), .ref (n0 + 7), .ref (n0 + 8), .ref (n0 + 9), .null, .null, .null, .null, .null, .null, .null, .int (kz 0), .int (kz 0), .int (kz 0), .null, .null, .null, .int (kz 0), .null, .int (kz 0), .null, .null, .null, .null, .null, .int (kz 0), .int (kz 0), .long 0, .long 0, .int (kz 0), .int (kz 0), .null, .null, .null, .null, .null, .null, .int (kz 0), .null, .null])) H := c9
  clear oq c9 hz9
  refine lv_aload_n hx hb dX12_init_86 rfl (lv_at hl 0 rfl) ?_
  refine lv_bipush (v := kz 24) hx hb dX12_init_87 (by decide) ?_
  refine jz_newa (atype := .int) (ty := .int) (N := 24) hx hb (hts (.arrayClass .int) (by decide +kernel)) rfl hK 0 rfl hS (a0 := (24, .inl (fun _ => 0))) rfl (by decide) (by decide) (Nat.le_of_ble_eq_true rfl) (Nat.le_of_ble_eq_true rfl) dX12_init_89 (fun x9 H hx9 c9 oq hz9 hS => ?_)
  have hx8 : x9 = n0 + 10 := hx9.trans hw.1
  rw [hx8] at c9 ⊢
  have hO := hO.kept (oq _ hO.lt)
  have hw := iw_new (t := (113, 20, 24, 0, 4)) hw c9 oq hz9 rfl (iv_e20 (ok20_z (by decide)))
  clear oq c9 hz9 hx9 hx8
  refine iz_putF (D := (dC, dI)) (ci := 12) (v := .ref (n0 + 10)) (ty := .array .int) (C := RX12) (T := TX12) (N := 49) hx hb hts hin tyX12 tyX12_ok nmX12 hown hK hO hS hA0 rfl 13 (by decide) (hts (.fieldLink RX12 42 "JoinBenchModel" "comes" "[I") (by decide +kernel)) (fun _ h9 => h9) rfl hin2 rfl (by decide +kernel) rfl rfl (Nat.le_of_ble_eq_true rfl) dX12_init_91 (fun H locs c9 oq hS hz9 => ?_)
  have hw := iw_put hw h0 oq hz9
  have hO : va_at (dC, dI) vwCl (m0, .inr (12, [.ref (n0 + 0), .int (kz 0), .int (kz 0), .ref (n0 + 1), .ref (n0 + 2), .ref (n0 + 3), .ref (n0 + 4), .ref (n0 + 5), .ref (n0 + 6), .int (kz 0), .ref (n0 + 7), .ref (n0 + 8), .ref (n0 + 9), .ref (n0 + 10), .null, .null, .null, .null, .null, .null, .int (kz 0), .int (kz 0), .int (kz 0), .null, .null, .null, .int (kz 0), .null, .int (kz 0), .null, .null, .null, .null, .null, .int (kz 0), .int (kz 0), .long 0, .long 0, .int (kz 0), .int (kz 0), .null, .null, .null, .null, .null, .null, .int (kz 0), .null, .null])) H := c9
  clear oq c9 hz9
  refine lv_aload_n hx hb dX12_init_94 rfl (lv_at hl 0 rfl) ?_
  refine lv_bipush (v := kz 24) hx hb dX12_init_95 (by decide) ?_
  refine jz_newa (atype := .int) (ty := .int) (N := 24) hx hb (hts (.arrayClass .int) (by decide +kernel)) rfl hK 0 rfl hS (a0 := (24, .inl (fun _ => 0))) rfl (by decide) (by decide) (Nat.le_of_ble_eq_true rfl) (Nat.le_of_ble_eq_true rfl) dX12_init_97 (fun x9 H hx9 c9 oq hz9 hS => ?_)
  have hx8 : x9 = n0 + 11 := hx9.trans hw.1
  rw [hx8] at c9 ⊢
  have hO := hO.kept (oq _ hO.lt)
  have hw := iw_new (t := (114, 20, 24, -2147483648, 2147483647)) hw c9 oq hz9 rfl (iv_e20 (ok20_z (by decide)))
  clear oq c9 hz9 hx9 hx8
  refine iz_putF (D := (dC, dI)) (ci := 12) (v := .ref (n0 + 11)) (ty := .array .int) (C := RX12) (T := TX12) (N := 49) hx hb hts hin tyX12 tyX12_ok nmX12 hown hK hO hS hA0 rfl 14 (by decide) (hts (.fieldLink RX12 45 "JoinBenchModel" "ruleCost" "[I") (by decide +kernel)) (fun _ h9 => h9) rfl hin2 rfl (by decide +kernel) rfl rfl (Nat.le_of_ble_eq_true rfl) dX12_init_99 (fun H locs c9 oq hS hz9 => ?_)
  have hw := iw_put hw h0 oq hz9
  have hO : va_at (dC, dI) vwCl (m0, .inr (12, [.ref (n0 + 0), .int (kz 0), .int (kz 0), .ref (n0 + 1), .ref (n0 + 2), .ref (n0 + 3), .ref (n0 + 4), .ref (n0 + 5), .ref (n0 + 6), .int (kz 0), .ref (n0 + 7), .ref (n0 + 8), .ref (n0 + 9), .ref (n0 + 10), .ref (n0 + 11), .null, .null, .null, .null, .null, .int (kz 0), .int (kz 0), .int (kz 0), .null, .null, .null, .int (kz 0), .null, .int (kz 0), .null, .null, .null, .null, .null, .int (kz 0), .int (kz 0), .long 0, .long 0, .int (kz 0), .int (kz 0), .null, .null, .null, .null, .null, .null, .int (kz 0), .null, .null])) H := c9
  clear oq c9 hz9
  refine lv_aload_n hx hb dX12_init_102 rfl (lv_at hl 0 rfl) ?_
  refine lv_bipush (v := kz 24) hx hb dX12_init_103 (by decide) ?_
  refine jz_newa (atype := .int) (ty := .int) (N := 24) hx hb (hts (.arrayClass .int) (by decide +kernel)) rfl hK 0 rfl hS (a0 := (24, .inl (fun _ => 0))) rfl (by decide) (by decide) (Nat.le_of_ble_eq_true rfl) (Nat.le_of_ble_eq_true rfl) dX12_init_105 (fun x9 H hx9 c9 oq hz9 hS => ?_)
  have hx8 : x9 = n0 + 12 := hx9.trans hw.1
  rw [hx8] at c9 ⊢
  have hO := hO.kept (oq _ hO.lt)
  have hw := iw_new (t := (115, 20, 24, -2147483648, 2147483647)) hw c9 oq hz9 rfl (iv_e20 (ok20_z (by decide)))
  clear oq c9 hz9 hx9 hx8
  refine iz_putF (D := (dC, dI)) (ci := 12) (v := .ref (n0 + 12)) (ty := .array .int) (C := RX12) (T := TX12) (N := 49) hx hb hts hin tyX12 tyX12_ok nmX12 hown hK hO hS hA0 rfl 15 (by decide) (hts (.fieldLink RX12 48 "JoinBenchModel" "ruleFirst" "[I") (by decide +kernel)) (fun _ h9 => h9) rfl hin2 rfl (by decide +kernel) rfl rfl (Nat.le_of_ble_eq_true rfl) dX12_init_107 (fun H locs c9 oq hS hz9 => ?_)
  have hw := iw_put hw h0 oq hz9
  have hO : va_at (dC, dI) vwCl (m0, .inr (12, [.ref (n0 + 0), .int (kz 0), .int (kz 0), .ref (n0 + 1), .ref (n0 + 2), .ref (n0 + 3), .ref (n0 + 4), .ref (n0 + 5), .ref (n0 + 6), .int (kz 0), .ref (n0 + 7), .ref (n0 + 8), .ref (n0 + 9), .ref (n0 + 10), .ref (n0 + 11), .ref (n0 + 12), .null, .null, .null, .null, .int (kz 0), .int (kz 0), .int (kz 0), .null, .null, .null, .int (kz 0), .null, .int (kz 0), .null, .null, .null, .null, .null, .int (kz 0), .int (kz 0), .long 0, .long 0, .int (kz 0), .int (kz 0), .null, .null, .null, .null, .null, .null, .int (kz 0), .null, .null])) H := c9
  clear oq c9 hz9
  refine lv_aload_n hx hb dX12_init_110 rfl (lv_at hl 0 rfl) ?_
  refine lv_bipush (v := kz 24) hx hb dX12_init_111 (by decide) ?_
  refine jz_newa (atype := .int) (ty := .int) (N := 24) hx hb (hts (.arrayClass .int) (by decide +kernel)) rfl hK 0 rfl hS (a0 := (24, .inl (fun _ => 0))) rfl (by decide) (by decide) (Nat.le_of_ble_eq_true rfl) (Nat.le_of_ble_eq_true rfl) dX12_init_113 (fun x9 H hx9 c9 oq hz9 hS => ?_)
  have hx8 : x9 = n0 + 13 := hx9.trans hw.1
  rw [hx8] at c9 ⊢
  have hO := hO.kept (oq _ hO.lt)
  have hw := iw_new (t := (116, 20, 24, -2147483648, 2147483647)) hw c9 oq hz9 rfl (iv_e20 (ok20_z (by decide)))
  clear oq c9 hz9 hx9 hx8
  refine iz_putF (D := (dC, dI)) (ci := 12) (v := .ref (n0 + 13)) (ty := .array .int) (C := RX12) (T := TX12) (N := 49) hx hb hts hin tyX12 tyX12_ok nmX12 hown hK hO hS hA0 rfl 16 (by decide) (hts (.fieldLink RX12 51 "JoinBenchModel" "ruleLast" "[I") (by decide +kernel)) (fun _ h9 => h9) rfl hin2 rfl (by decide +kernel) rfl rfl (Nat.le_of_ble_eq_true rfl) dX12_init_115 (fun H locs c9 oq hS hz9 => ?_)
  have hw := iw_put hw h0 oq hz9
  have hO : va_at (dC, dI) vwCl (m0, .inr (12, [.ref (n0 + 0), .int (kz 0), .int (kz 0), .ref (n0 + 1), .ref (n0 + 2), .ref (n0 + 3), .ref (n0 + 4), .ref (n0 + 5), .ref (n0 + 6), .int (kz 0), .ref (n0 + 7), .ref (n0 + 8), .ref (n0 + 9), .ref (n0 + 10), .ref (n0 + 11), .ref (n0 + 12), .ref (n0 + 13), .null, .null, .null, .int (kz 0), .int (kz 0), .int (kz 0), .null, .null, .null, .int (kz 0), .null, .int (kz 0), .null, .null, .null, .null, .null, .int (kz 0), .int (kz 0), .long 0, .long 0, .int (kz 0), .int (kz 0), .null, .null, .null, .null, .null, .null, .int (kz 0), .null, .null])) H := c9
  clear oq c9 hz9
  refine lv_aload_n hx hb dX12_init_118 rfl (lv_at hl 0 rfl) ?_
  refine lv_bipush (v := kz 36) hx hb dX12_init_119 (by decide) ?_
  refine jz_newa (atype := .boolean) (ty := .boolean) (N := 36) hx hb (hts (.arrayClass .boolean) (by decide +kernel)) rfl hK 2 rfl hS (a0 := (36, .inl (fun _ => 0))) rfl (by decide) (by decide) (Nat.le_of_ble_eq_true rfl) (Nat.le_of_ble_eq_true rfl) dX12_init_121 (fun x9 H hx9 c9 oq hz9 hS => ?_)
  have hx8 : x9 = n0 + 14 := hx9.trans hw.1
  rw [hx8] at c9 ⊢
  have hO := hO.kept (oq _ hO.lt)
  have hw := iw_new (t := (117, 22, 36, 0, 0)) hw c9 oq hz9 rfl iv_e22
  clear oq c9 hz9 hx9 hx8
  refine iz_putF (D := (dC, dI)) (ci := 12) (v := .ref (n0 + 14)) (ty := .array .boolean) (C := RX12) (T := TX12) (N := 49) hx hb hts hin tyX12 tyX12_ok nmX12 hown hK hO hS hA0 rfl 17 (by decide) (hts (.fieldLink RX12 54 "JoinBenchModel" "mayNot" "[Z") (by decide +kernel)) (fun _ h9 => h9) rfl hin2 rfl (by decide +kernel) rfl rfl (Nat.le_of_ble_eq_true rfl) dX12_init_123 (fun H locs c9 oq hS hz9 => ?_)
  have hw := iw_put hw h0 oq hz9
  have hO : va_at (dC, dI) vwCl (m0, .inr (12, [.ref (n0 + 0), .int (kz 0), .int (kz 0), .ref (n0 + 1), .ref (n0 + 2), .ref (n0 + 3), .ref (n0 + 4), .ref (n0 + 5), .ref (n0 + 6), .int (kz 0), .ref (n0 + 7), .ref (n0 + 8), .ref (n0 + 9), .ref (n0 + 10), .ref (n0 + 11), .ref (n0 + 12), .ref (n0 + 13), .ref (n0 + 14), .null, .null, .int (kz 0), .int (kz 0), .int (kz 0), .null, .null, .null, .int (kz 0), .null, .int (kz 0), .null, .null, .null, .null, .null, .int (kz 0), .int (kz 0), .long 0, .long 0, .int (kz 0), .int (kz 0), .null, .null, .null, .null, .null, .null, .int (kz 0), .null, .null])) H := c9
  clear oq c9 hz9
  refine lv_aload_n hx hb dX12_init_126 rfl (lv_at hl 0 rfl) ?_
  refine lv_bipush (v := kz 36) hx hb dX12_init_127 (by decide) ?_
  refine jz_newa (atype := .int) (ty := .int) (N := 36) hx hb (hts (.arrayClass .int) (by decide +kernel)) rfl hK 0 rfl hS (a0 := (36, .inl (fun _ => 0))) rfl (by decide) (by decide) (Nat.le_of_ble_eq_true rfl) (Nat.le_of_ble_eq_true rfl) dX12_init_129 (fun x9 H hx9 c9 oq hz9 hS => ?_)
  have hx8 : x9 = n0 + 15 := hx9.trans hw.1
  rw [hx8] at c9 ⊢
  have hO := hO.kept (oq _ hO.lt)
  have hw := iw_new (t := (118, 20, 36, -1, 5)) hw c9 oq hz9 rfl (iv_e20 (ok20_z (by decide)))
  clear oq c9 hz9 hx9 hx8
  refine iz_putF (D := (dC, dI)) (ci := 12) (v := .ref (n0 + 15)) (ty := .array .int) (C := RX12) (T := TX12) (N := 49) hx hb hts hin tyX12 tyX12_ok nmX12 hown hK hO hS hA0 rfl 18 (by decide) (hts (.fieldLink RX12 57 "JoinBenchModel" "tree" "[I") (by decide +kernel)) (fun _ h9 => h9) rfl hin2 rfl (by decide +kernel) rfl rfl (Nat.le_of_ble_eq_true rfl) dX12_init_131 (fun H locs c9 oq hS hz9 => ?_)
  have hw := iw_put hw h0 oq hz9
  have hO : va_at (dC, dI) vwCl (m0, .inr (12, [.ref (n0 + 0), .int (kz 0), .int (kz 0), .ref (n0 + 1), .ref (n0 + 2), .ref (n0 + 3), .ref (n0 + 4), .ref (n0 + 5), .ref (n0 + 6), .int (kz 0), .ref (n0 + 7), .ref (n0 + 8), .ref (n0 + 9), .ref (n0 + 10), .ref (n0 + 11), .ref (n0 + 12), .ref (n0 + 13), .ref (n0 + 14), .ref (n0 + 15), .null, .int (kz 0), .int (kz 0), .int (kz 0), .null, .null, .null, .int (kz 0), .null, .int (kz 0), .null, .null, .null, .null, .null, .int (kz 0), .int (kz 0), .long 0, .long 0, .int (kz 0), .int (kz 0), .null, .null, .null, .null, .null, .null, .int (kz 0), .null, .null])) H := c9
  clear oq c9 hz9
  refine lv_aload_n hx hb dX12_init_134 rfl (lv_at hl 0 rfl) ?_
  refine lv_bipush (v := kz 20) hx hb dX12_init_135 (by decide) ?_
  refine jz_newa (atype := .int) (ty := .int) (N := 20) hx hb (hts (.arrayClass .int) (by decide +kernel)) rfl hK 0 rfl hS (a0 := (20, .inl (fun _ => 0))) rfl (by decide) (by decide) (Nat.le_of_ble_eq_true rfl) (Nat.le_of_ble_eq_true rfl) dX12_init_137 (fun x9 H hx9 c9 oq hz9 hS => ?_)
  have hx8 : x9 = n0 + 16 := hx9.trans hw.1
  rw [hx8] at c9 ⊢
  have hO := hO.kept (oq _ hO.lt)
  have hw := iw_new (t := (119, 20, 20, -2147483648, 2147483647)) hw c9 oq hz9 rfl (iv_e20 (ok20_z (by decide)))
  clear oq c9 hz9 hx9 hx8
  refine iz_putF (D := (dC, dI)) (ci := 12) (v := .ref (n0 + 16)) (ty := .array .int) (C := RX12) (T := TX12) (N := 49) hx hb hts hin tyX12 tyX12_ok nmX12 hown hK hO hS hA0 rfl 19 (by decide) (hts (.fieldLink RX12 60 "JoinBenchModel" "uses" "[I") (by decide +kernel)) (fun _ h9 => h9) rfl hin2 rfl (by decide +kernel) rfl rfl (Nat.le_of_ble_eq_true rfl) dX12_init_139 (fun H locs c9 oq hS hz9 => ?_)
  have hw := iw_put hw h0 oq hz9
  have hO : va_at (dC, dI) vwCl (m0, .inr (12, [.ref (n0 + 0), .int (kz 0), .int (kz 0), .ref (n0 + 1), .ref (n0 + 2), .ref (n0 + 3), .ref (n0 + 4), .ref (n0 + 5), .ref (n0 + 6), .int (kz 0), .ref (n0 + 7), .ref (n0 + 8), .ref (n0 + 9), .ref (n0 + 10), .ref (n0 + 11), .ref (n0 + 12), .ref (n0 + 13), .ref (n0 + 14), .ref (n0 + 15), .ref (n0 + 16), .int (kz 0), .int (kz 0), .int (kz 0), .null, .null, .null, .int (kz 0), .null, .int (kz 0), .null, .null, .null, .null, .null, .int (kz 0), .int (kz 0), .long 0, .long 0, .int (kz 0), .int (kz 0), .null, .null, .null, .null, .null, .null, .int (kz 0), .null, .null])) H := c9
  clear oq c9 hz9
  refine lv_aload_n hx hb dX12_init_142 rfl (lv_at hl 0 rfl) ?_
  refine lv_iconst (v := kz 1) hx hb dX12_init_143 rfl ?_
  refine iz_put (D := (dC, dI)) (ci := 12) (v := .int (kz 1)) (ty := .int) (C := RX12) (T := TX12) (N := 49) hx hb hts hin tyX12 tyX12_ok nmX12 hown hK hO hS hA0 rfl 20 (by decide) (hts (.fieldLink RX12 63 "JoinBenchModel" "step" "I") (by decide +kernel)) (fun _ h9 => h9) rfl (by decide +kernel) rfl rfl (Nat.le_of_ble_eq_true rfl) dX12_init_144 (fun H locs c9 oq hS => ?_)
  have hz9 := iw_sz hO.lt c9.lt oq
  have hw := iw_put hw h0 oq hz9
  have hO : va_at (dC, dI) vwCl (m0, .inr (12, [.ref (n0 + 0), .int (kz 0), .int (kz 0), .ref (n0 + 1), .ref (n0 + 2), .ref (n0 + 3), .ref (n0 + 4), .ref (n0 + 5), .ref (n0 + 6), .int (kz 0), .ref (n0 + 7), .ref (n0 + 8), .ref (n0 + 9), .ref (n0 + 10), .ref (n0 + 11), .ref (n0 + 12), .ref (n0 + 13), .ref (n0 + 14), .ref (n0 + 15), .ref (n0 + 16), .int (kz 1), .int (kz 0), .int (kz 0), .null, .null, .null, .int (kz 0), .null, .int (kz 0), .null, .null, .null, .null, .null, .int (kz 0), .int (kz 0), .long 0, .long 0, .int (kz 0), .int (kz 0), .null, .null, .null, .null, .null, .null, .int (kz 0), .null, .null])) H := c9
  clear oq c9 hz9
  refine lv_aload_n hx hb dX12_init_147 rfl (lv_at hl 0 rfl) ?_
  refine lv_bipush (v := kz 40) hx hb dX12_init_148 (by decide) ?_
  refine jz_newa (atype := .int) (ty := .int) (N := 40) hx hb (hts (.arrayClass .int) (by decide +kernel)) rfl hK 0 rfl hS (a0 := (40, .inl (fun _ => 0))) rfl (by decide) (by decide) (Nat.le_of_ble_eq_true rfl) (Nat.le_of_ble_eq_true rfl) dX12_init_150 (fun x9 H hx9 c9 oq hz9 hS => ?_)
  have hx8 : x9 = n0 + 17 := hx9.trans hw.1
  rw [hx8] at c9 ⊢
  have hO := hO.kept (oq _ hO.lt)
  have hw := iw_new (t := (123, 20, 40, 0, 39)) hw c9 oq hz9 rfl (iv_e20 (ok20_z (by decide)))
  clear oq c9 hz9 hx9 hx8
  refine iz_putF (D := (dC, dI)) (ci := 12) (v := .ref (n0 + 17)) (ty := .array .int) (C := RX12) (T := TX12) (N := 49) hx hb hts hin tyX12 tyX12_ok nmX12 hown hK hO hS hA0 rfl 23 (by decide) (hts (.fieldLink RX12 67 "JoinBenchModel" "rowForm" "[I") (by decide +kernel)) (fun _ h9 => h9) rfl hin2 rfl (by decide +kernel) rfl rfl (Nat.le_of_ble_eq_true rfl) dX12_init_152 (fun H locs c9 oq hS hz9 => ?_)
  have hw := iw_put hw h0 oq hz9
  have hO : va_at (dC, dI) vwCl (m0, .inr (12, [.ref (n0 + 0), .int (kz 0), .int (kz 0), .ref (n0 + 1), .ref (n0 + 2), .ref (n0 + 3), .ref (n0 + 4), .ref (n0 + 5), .ref (n0 + 6), .int (kz 0), .ref (n0 + 7), .ref (n0 + 8), .ref (n0 + 9), .ref (n0 + 10), .ref (n0 + 11), .ref (n0 + 12), .ref (n0 + 13), .ref (n0 + 14), .ref (n0 + 15), .ref (n0 + 16), .int (kz 1), .int (kz 0), .int (kz 0), .ref (n0 + 17), .null, .null, .int (kz 0), .null, .int (kz 0), .null, .null, .null, .null, .null, .int (kz 0), .int (kz 0), .long 0, .long 0, .int (kz 0), .int (kz 0), .null, .null, .null, .null, .null, .null, .int (kz 0), .null, .null])) H := c9
  clear oq c9 hz9
  refine lv_aload_n hx hb dX12_init_155 rfl (lv_at hl 0 rfl) ?_
  refine lv_bipush (v := kz 40) hx hb dX12_init_156 (by decide) ?_
  refine jz_newa (atype := .int) (ty := .int) (N := 40) hx hb (hts (.arrayClass .int) (by decide +kernel)) rfl hK 0 rfl hS (a0 := (40, .inl (fun _ => 0))) rfl (by decide) (by decide) (Nat.le_of_ble_eq_true rfl) (Nat.le_of_ble_eq_true rfl) dX12_init_158 (fun x9 H hx9 c9 oq hz9 hS => ?_)
  have hx8 : x9 = n0 + 18 := hx9.trans hw.1
  rw [hx8] at c9 ⊢
  have hO := hO.kept (oq _ hO.lt)
  have hw := iw_new (t := (124, 20, 40, -1, 23)) hw c9 oq hz9 rfl (iv_e20 (ok20_z (by decide)))
  clear oq c9 hz9 hx9 hx8
  refine iz_putF (D := (dC, dI)) (ci := 12) (v := .ref (n0 + 18)) (ty := .array .int) (C := RX12) (T := TX12) (N := 49) hx hb hts hin tyX12 tyX12_ok nmX12 hown hK hO hS hA0 rfl 24 (by decide) (hts (.fieldLink RX12 70 "JoinBenchModel" "rowRule" "[I") (by decide +kernel)) (fun _ h9 => h9) rfl hin2 rfl (by decide +kernel) rfl rfl (Nat.le_of_ble_eq_true rfl) dX12_init_160 (fun H locs c9 oq hS hz9 => ?_)
  have hw := iw_put hw h0 oq hz9
  have hO : va_at (dC, dI) vwCl (m0, .inr (12, [.ref (n0 + 0), .int (kz 0), .int (kz 0), .ref (n0 + 1), .ref (n0 + 2), .ref (n0 + 3), .ref (n0 + 4), .ref (n0 + 5), .ref (n0 + 6), .int (kz 0), .ref (n0 + 7), .ref (n0 + 8), .ref (n0 + 9), .ref (n0 + 10), .ref (n0 + 11), .ref (n0 + 12), .ref (n0 + 13), .ref (n0 + 14), .ref (n0 + 15), .ref (n0 + 16), .int (kz 1), .int (kz 0), .int (kz 0), .ref (n0 + 17), .ref (n0 + 18), .null, .int (kz 0), .null, .int (kz 0), .null, .null, .null, .null, .null, .int (kz 0), .int (kz 0), .long 0, .long 0, .int (kz 0), .int (kz 0), .null, .null, .null, .null, .null, .null, .int (kz 0), .null, .null])) H := c9
  clear oq c9 hz9
  refine lv_aload_n hx hb dX12_init_163 rfl (lv_at hl 0 rfl) ?_
  refine lv_sipush (v := kz 480) hx hb dX12_init_164 (by decide) ?_
  refine jz_newa (atype := .byte) (ty := .byte) (N := 480) hx hb (hts (.arrayClass .byte) (by decide +kernel)) rfl hK 1 rfl hS (a0 := (480, .inl (fun _ => 0))) rfl (by decide) (by decide) (Nat.le_of_ble_eq_true rfl) (Nat.le_of_ble_eq_true rfl) dX12_init_167 (fun x9 H hx9 c9 oq hz9 hS => ?_)
  have hx8 : x9 = n0 + 19 := hx9.trans hw.1
  rw [hx8] at c9 ⊢
  have hO := hO.kept (oq _ hO.lt)
  have hw := iw_new (t := (125, 21, 480, 0, 0)) hw c9 oq hz9 rfl iv_e21
  clear oq c9 hz9 hx9 hx8
  refine iz_putF (D := (dC, dI)) (ci := 12) (v := .ref (n0 + 19)) (ty := .array .byte) (C := RX12) (T := TX12) (N := 49) hx hb hts hin tyX12 tyX12_ok nmX12 hown hK hO hS hA0 rfl 25 (by decide) (hts (.fieldLink RX12 73 "JoinBenchModel" "out" "[B") (by decide +kernel)) (fun _ h9 => h9) rfl hin2 rfl (by decide +kernel) rfl rfl (Nat.le_of_ble_eq_true rfl) dX12_init_169 (fun H locs c9 oq hS hz9 => ?_)
  have hw := iw_put hw h0 oq hz9
  have hO : va_at (dC, dI) vwCl (m0, .inr (12, [.ref (n0 + 0), .int (kz 0), .int (kz 0), .ref (n0 + 1), .ref (n0 + 2), .ref (n0 + 3), .ref (n0 + 4), .ref (n0 + 5), .ref (n0 + 6), .int (kz 0), .ref (n0 + 7), .ref (n0 + 8), .ref (n0 + 9), .ref (n0 + 10), .ref (n0 + 11), .ref (n0 + 12), .ref (n0 + 13), .ref (n0 + 14), .ref (n0 + 15), .ref (n0 + 16), .int (kz 1), .int (kz 0), .int (kz 0), .ref (n0 + 17), .ref (n0 + 18), .ref (n0 + 19), .int (kz 0), .null, .int (kz 0), .null, .null, .null, .null, .null, .int (kz 0), .int (kz 0), .long 0, .long 0, .int (kz 0), .int (kz 0), .null, .null, .null, .null, .null, .null, .int (kz 0), .null, .null])) H := c9
  clear oq c9 hz9
  refine lv_aload_n hx hb dX12_init_172 rfl (lv_at hl 0 rfl) ?_
  refine lv_bipush (v := kz 40) hx hb dX12_init_173 (by decide) ?_
  refine jz_newa (atype := .byte) (ty := .byte) (N := 40) hx hb (hts (.arrayClass .byte) (by decide +kernel)) rfl hK 1 rfl hS (a0 := (40, .inl (fun _ => 0))) rfl (by decide) (by decide) (Nat.le_of_ble_eq_true rfl) (Nat.le_of_ble_eq_true rfl) dX12_init_175 (fun x9 H hx9 c9 oq hz9 hS => ?_)
  have hx8 : x9 = n0 + 20 := hx9.trans hw.1
  rw [hx8] at c9 ⊢
  have hO := hO.kept (oq _ hO.lt)
  have hw := iw_new (t := (127, 21, 40, 0, 0)) hw c9 oq hz9 rfl iv_e21
  clear oq c9 hz9 hx9 hx8
  refine iz_putF (D := (dC, dI)) (ci := 12) (v := .ref (n0 + 20)) (ty := .array .byte) (C := RX12) (T := TX12) (N := 49) hx hb hts hin tyX12 tyX12_ok nmX12 hown hK hO hS hA0 rfl 27 (by decide) (hts (.fieldLink RX12 76 "JoinBenchModel" "line" "[B") (by decide +kernel)) (fun _ h9 => h9) rfl hin2 rfl (by decide +kernel) rfl rfl (Nat.le_of_ble_eq_true rfl) dX12_init_177 (fun H locs c9 oq hS hz9 => ?_)
  have hw := iw_put hw h0 oq hz9
  have hO : va_at (dC, dI) vwCl (m0, .inr (12, [.ref (n0 + 0), .int (kz 0), .int (kz 0), .ref (n0 + 1), .ref (n0 + 2), .ref (n0 + 3), .ref (n0 + 4), .ref (n0 + 5), .ref (n0 + 6), .int (kz 0), .ref (n0 + 7), .ref (n0 + 8), .ref (n0 + 9), .ref (n0 + 10), .ref (n0 + 11), .ref (n0 + 12), .ref (n0 + 13), .ref (n0 + 14), .ref (n0 + 15), .ref (n0 + 16), .int (kz 1), .int (kz 0), .int (kz 0), .ref (n0 + 17), .ref (n0 + 18), .ref (n0 + 19), .int (kz 0), .ref (n0 + 20), .int (kz 0), .null, .null, .null, .null, .null, .int (kz 0), .int (kz 0), .long 0, .long 0, .int (kz 0), .int (kz 0), .null, .null, .null, .null, .null, .null, .int (kz 0), .null, .null])) H := c9
  clear oq c9 hz9
  refine lv_aload_n hx hb dX12_init_180 rfl (lv_at hl 0 rfl) ?_
  refine lv_sipush (v := kz 1600) hx hb dX12_init_181 (by decide) ?_
  refine jz_newa (atype := .int) (ty := .int) (N := 1600) hx hb (hts (.arrayClass .int) (by decide +kernel)) rfl hK 0 rfl hS (a0 := (1600, .inl (fun _ => 0))) rfl (by decide) (by decide) (Nat.le_of_ble_eq_true rfl) (Nat.le_of_ble_eq_true rfl) dX12_init_184 (fun x9 H hx9 c9 oq hz9 hS => ?_)
  have hx8 : x9 = n0 + 21 := hx9.trans hw.1
  rw [hx8] at c9 ⊢
  have hO := hO.kept (oq _ hO.lt)
  have hw := iw_new (t := (129, 20, 1600, -2147483648, 2147483647)) hw c9 oq hz9 rfl (iv_e20 (ok20_z (by decide)))
  clear oq c9 hz9 hx9 hx8
  refine iz_putF (D := (dC, dI)) (ci := 12) (v := .ref (n0 + 21)) (ty := .array .int) (C := RX12) (T := TX12) (N := 49) hx hb hts hin tyX12 tyX12_ok nmX12 hown hK hO hS hA0 rfl 29 (by decide) (hts (.fieldLink RX12 79 "JoinBenchModel" "fit" "[I") (by decide +kernel)) (fun _ h9 => h9) rfl hin2 rfl (by decide +kernel) rfl rfl (Nat.le_of_ble_eq_true rfl) dX12_init_186 (fun H locs c9 oq hS hz9 => ?_)
  have hw := iw_put hw h0 oq hz9
  have hO : va_at (dC, dI) vwCl (m0, .inr (12, [.ref (n0 + 0), .int (kz 0), .int (kz 0), .ref (n0 + 1), .ref (n0 + 2), .ref (n0 + 3), .ref (n0 + 4), .ref (n0 + 5), .ref (n0 + 6), .int (kz 0), .ref (n0 + 7), .ref (n0 + 8), .ref (n0 + 9), .ref (n0 + 10), .ref (n0 + 11), .ref (n0 + 12), .ref (n0 + 13), .ref (n0 + 14), .ref (n0 + 15), .ref (n0 + 16), .int (kz 1), .int (kz 0), .int (kz 0), .ref (n0 + 17), .ref (n0 + 18), .ref (n0 + 19), .int (kz 0), .ref (n0 + 20), .int (kz 0), .ref (n0 + 21), .null, .null, .null, .null, .int (kz 0), .int (kz 0), .long 0, .long 0, .int (kz 0), .int (kz 0), .null, .null, .null, .null, .null, .null, .int (kz 0), .null, .null])) H := c9
  clear oq c9 hz9
  refine lv_aload_n hx hb dX12_init_189 rfl (lv_at hl 0 rfl) ?_
  refine lv_sipush (v := kz 6560) hx hb dX12_init_190 (by decide) ?_
  refine jz_newa (atype := .boolean) (ty := .boolean) (N := 6560) hx hb (hts (.arrayClass .boolean) (by decide +kernel)) rfl hK 2 rfl hS (a0 := (6560, .inl (fun _ => 0))) rfl (by decide) (by decide) (Nat.le_of_ble_eq_true rfl) (Nat.le_of_ble_eq_true rfl) dX12_init_193 (fun x9 H hx9 c9 oq hz9 hS => ?_)
  have hx8 : x9 = n0 + 22 := hx9.trans hw.1
  rw [hx8] at c9 ⊢
  have hO := hO.kept (oq _ hO.lt)
  have hw := iw_new (t := (130, 22, 6560, 0, 0)) hw c9 oq hz9 rfl iv_e22
  clear oq c9 hz9 hx9 hx8
  refine iz_putF (D := (dC, dI)) (ci := 12) (v := .ref (n0 + 22)) (ty := .array .boolean) (C := RX12) (T := TX12) (N := 49) hx hb hts hin tyX12 tyX12_ok nmX12 hown hK hO hS hA0 rfl 30 (by decide) (hts (.fieldLink RX12 82 "JoinBenchModel" "isCome" "[Z") (by decide +kernel)) (fun _ h9 => h9) rfl hin2 rfl (by decide +kernel) rfl rfl (Nat.le_of_ble_eq_true rfl) dX12_init_195 (fun H locs c9 oq hS hz9 => ?_)
  have hw := iw_put hw h0 oq hz9
  have hO : va_at (dC, dI) vwCl (m0, .inr (12, [.ref (n0 + 0), .int (kz 0), .int (kz 0), .ref (n0 + 1), .ref (n0 + 2), .ref (n0 + 3), .ref (n0 + 4), .ref (n0 + 5), .ref (n0 + 6), .int (kz 0), .ref (n0 + 7), .ref (n0 + 8), .ref (n0 + 9), .ref (n0 + 10), .ref (n0 + 11), .ref (n0 + 12), .ref (n0 + 13), .ref (n0 + 14), .ref (n0 + 15), .ref (n0 + 16), .int (kz 1), .int (kz 0), .int (kz 0), .ref (n0 + 17), .ref (n0 + 18), .ref (n0 + 19), .int (kz 0), .ref (n0 + 20), .int (kz 0), .ref (n0 + 21), .ref (n0 + 22), .null, .null, .null, .int (kz 0), .int (kz 0), .long 0, .long 0, .int (kz 0), .int (kz 0), .null, .null, .null, .null, .null, .null, .int (kz 0), .null, .null])) H := c9
  clear oq c9 hz9
  refine lv_aload_n hx hb dX12_init_198 rfl (lv_at hl 0 rfl) ?_
  refine lv_sipush (v := kz 6560) hx hb dX12_init_199 (by decide) ?_
  refine jz_newa (atype := .long) (ty := .long) (N := 6560) hx hb (hts (.arrayClass .long) (by decide +kernel)) rfl hK 3 rfl hS (a0 := (6560, .inr (.inl (fun _ => 0)))) rfl (by decide) (by decide) (Nat.le_of_ble_eq_true rfl) (Nat.le_of_ble_eq_true rfl) dX12_init_202 (fun x9 H hx9 c9 oq hz9 hS => ?_)
  have hx8 : x9 = n0 + 23 := hx9.trans hw.1
  rw [hx8] at c9 ⊢
  have hO := hO.kept (oq _ hO.lt)
  have hw := iw_new (t := (131, 23, 6560, 0, 0)) hw c9 oq hz9 rfl iv_e23
  clear oq c9 hz9 hx9 hx8
  refine iz_putF (D := (dC, dI)) (ci := 12) (v := .ref (n0 + 23)) (ty := .array .long) (C := RX12) (T := TX12) (N := 49) hx hb hts hin tyX12 tyX12_ok nmX12 hown hK hO hS hA0 rfl 31 (by decide) (hts (.fieldLink RX12 85 "JoinBenchModel" "ways" "[J") (by decide +kernel)) (fun _ h9 => h9) rfl hin2 rfl (by decide +kernel) rfl rfl (Nat.le_of_ble_eq_true rfl) dX12_init_204 (fun H locs c9 oq hS hz9 => ?_)
  have hw := iw_put hw h0 oq hz9
  have hO : va_at (dC, dI) vwCl (m0, .inr (12, [.ref (n0 + 0), .int (kz 0), .int (kz 0), .ref (n0 + 1), .ref (n0 + 2), .ref (n0 + 3), .ref (n0 + 4), .ref (n0 + 5), .ref (n0 + 6), .int (kz 0), .ref (n0 + 7), .ref (n0 + 8), .ref (n0 + 9), .ref (n0 + 10), .ref (n0 + 11), .ref (n0 + 12), .ref (n0 + 13), .ref (n0 + 14), .ref (n0 + 15), .ref (n0 + 16), .int (kz 1), .int (kz 0), .int (kz 0), .ref (n0 + 17), .ref (n0 + 18), .ref (n0 + 19), .int (kz 0), .ref (n0 + 20), .int (kz 0), .ref (n0 + 21), .ref (n0 + 22), .ref (n0 + 23), .null, .null, .int (kz 0), .int (kz 0), .long 0, .long 0, .int (kz 0), .int (kz 0), .null, .null, .null, .null, .null, .null, .int (kz 0), .null, .null])) H := c9
  clear oq c9 hz9
  refine lv_aload_n hx hb dX12_init_207 rfl (lv_at hl 0 rfl) ?_
  refine lv_ldc (own := RX12) (v := kz 52480) hx hb hown (hts (.constant RX12 89 (52480)) (by decide +kernel)) dX12_init_208 ?_
  refine jz_newa (atype := .int) (ty := .int) (N := 52480) hx hb (hts (.arrayClass .int) (by decide +kernel)) rfl hK 0 rfl hS (a0 := (52480, .inl (fun _ => 0))) rfl (by decide) (by decide) (Nat.le_of_ble_eq_true rfl) (Nat.le_of_ble_eq_true rfl) dX12_init_210 (fun x9 H hx9 c9 oq hz9 hS => ?_)
  have hx8 : x9 = n0 + 24 := hx9.trans hw.1
  rw [hx8] at c9 ⊢
  have hO := hO.kept (oq _ hO.lt)
  have hw := iw_new (t := (132, 20, 52480, -2147483648, 2147483647)) hw c9 oq hz9 rfl (iv_e20 (ok20_z (by decide)))
  clear oq c9 hz9 hx9 hx8
  refine iz_putF (D := (dC, dI)) (ci := 12) (v := .ref (n0 + 24)) (ty := .array .int) (C := RX12) (T := TX12) (N := 49) hx hb hts hin tyX12 tyX12_ok nmX12 hown hK hO hS hA0 rfl 32 (by decide) (hts (.fieldLink RX12 90 "JoinBenchModel" "best" "[I") (by decide +kernel)) (fun _ h9 => h9) rfl hin2 rfl (by decide +kernel) rfl rfl (Nat.le_of_ble_eq_true rfl) dX12_init_212 (fun H locs c9 oq hS hz9 => ?_)
  have hw := iw_put hw h0 oq hz9
  have hO : va_at (dC, dI) vwCl (m0, .inr (12, [.ref (n0 + 0), .int (kz 0), .int (kz 0), .ref (n0 + 1), .ref (n0 + 2), .ref (n0 + 3), .ref (n0 + 4), .ref (n0 + 5), .ref (n0 + 6), .int (kz 0), .ref (n0 + 7), .ref (n0 + 8), .ref (n0 + 9), .ref (n0 + 10), .ref (n0 + 11), .ref (n0 + 12), .ref (n0 + 13), .ref (n0 + 14), .ref (n0 + 15), .ref (n0 + 16), .int (kz 1), .int (kz 0), .int (kz 0), .ref (n0 + 17), .ref (n0 + 18), .ref (n0 + 19), .int (kz 0), .ref (n0 + 20), .int (kz 0), .ref (n0 + 21), .ref (n0 + 22), .ref (n0 + 23), .ref (n0 + 24), .null, .int (kz 0), .int (kz 0), .long 0, .long 0, .int (kz 0), .int (kz 0), .null, .null, .null, .null, .null, .null, .int (kz 0), .null, .null])) H := c9
  clear oq c9 hz9
  refine lv_aload_n hx hb dX12_init_215 rfl (lv_at hl 0 rfl) ?_
  refine lv_sipush (v := kz 6560) hx hb dX12_init_216 (by decide) ?_
  refine jz_newa (atype := .int) (ty := .int) (N := 6560) hx hb (hts (.arrayClass .int) (by decide +kernel)) rfl hK 0 rfl hS (a0 := (6560, .inl (fun _ => 0))) rfl (by decide) (by decide) (Nat.le_of_ble_eq_true rfl) (Nat.le_of_ble_eq_true rfl) dX12_init_219 (fun x9 H hx9 c9 oq hz9 hS => ?_)
  have hx8 : x9 = n0 + 25 := hx9.trans hw.1
  rw [hx8] at c9 ⊢
  have hO := hO.kept (oq _ hO.lt)
  have hw := iw_new (t := (133, 20, 6560, 0, 8)) hw c9 oq hz9 rfl (iv_e20 (ok20_z (by decide)))
  clear oq c9 hz9 hx9 hx8
  refine iz_putF (D := (dC, dI)) (ci := 12) (v := .ref (n0 + 25)) (ty := .array .int) (C := RX12) (T := TX12) (N := 49) hx hb hts hin tyX12 tyX12_ok nmX12 hown hK hO hS hA0 rfl 33 (by decide) (hts (.fieldLink RX12 93 "JoinBenchModel" "bestMany" "[I") (by decide +kernel)) (fun _ h9 => h9) rfl hin2 rfl (by decide +kernel) rfl rfl (Nat.le_of_ble_eq_true rfl) dX12_init_221 (fun H locs c9 oq hS hz9 => ?_)
  have hw := iw_put hw h0 oq hz9
  have hO : va_at (dC, dI) vwCl (m0, .inr (12, [.ref (n0 + 0), .int (kz 0), .int (kz 0), .ref (n0 + 1), .ref (n0 + 2), .ref (n0 + 3), .ref (n0 + 4), .ref (n0 + 5), .ref (n0 + 6), .int (kz 0), .ref (n0 + 7), .ref (n0 + 8), .ref (n0 + 9), .ref (n0 + 10), .ref (n0 + 11), .ref (n0 + 12), .ref (n0 + 13), .ref (n0 + 14), .ref (n0 + 15), .ref (n0 + 16), .int (kz 1), .int (kz 0), .int (kz 0), .ref (n0 + 17), .ref (n0 + 18), .ref (n0 + 19), .int (kz 0), .ref (n0 + 20), .int (kz 0), .ref (n0 + 21), .ref (n0 + 22), .ref (n0 + 23), .ref (n0 + 24), .ref (n0 + 25), .int (kz 0), .int (kz 0), .long 0, .long 0, .int (kz 0), .int (kz 0), .null, .null, .null, .null, .null, .null, .int (kz 0), .null, .null])) H := c9
  clear oq c9 hz9
  refine lv_aload_n hx hb dX12_init_224 rfl (lv_at hl 0 rfl) ?_
  refine lv_bipush (v := kz 8) hx hb dX12_init_225 (by decide) ?_
  refine jz_newa (atype := .int) (ty := .int) (N := 8) hx hb (hts (.arrayClass .int) (by decide +kernel)) rfl hK 0 rfl hS (a0 := (8, .inl (fun _ => 0))) rfl (by decide) (by decide) (Nat.le_of_ble_eq_true rfl) (Nat.le_of_ble_eq_true rfl) dX12_init_227 (fun x9 H hx9 c9 oq hz9 hS => ?_)
  have hx8 : x9 = n0 + 26 := hx9.trans hw.1
  rw [hx8] at c9 ⊢
  have hO := hO.kept (oq _ hO.lt)
  have hw := iw_new (t := (140, 20, 8, -2147483648, 2147483647)) hw c9 oq hz9 rfl (iv_e20 (ok20_z (by decide)))
  clear oq c9 hz9 hx9 hx8
  refine iz_putF (D := (dC, dI)) (ci := 12) (v := .ref (n0 + 26)) (ty := .array .int) (C := RX12) (T := TX12) (N := 49) hx hb hts hin tyX12 tyX12_ok nmX12 hown hK hO hS hA0 rfl 40 (by decide) (hts (.fieldLink RX12 96 "JoinBenchModel" "toldCost" "[I") (by decide +kernel)) (fun _ h9 => h9) rfl hin2 rfl (by decide +kernel) rfl rfl (Nat.le_of_ble_eq_true rfl) dX12_init_229 (fun H locs c9 oq hS hz9 => ?_)
  have hw := iw_put hw h0 oq hz9
  have hO : va_at (dC, dI) vwCl (m0, .inr (12, [.ref (n0 + 0), .int (kz 0), .int (kz 0), .ref (n0 + 1), .ref (n0 + 2), .ref (n0 + 3), .ref (n0 + 4), .ref (n0 + 5), .ref (n0 + 6), .int (kz 0), .ref (n0 + 7), .ref (n0 + 8), .ref (n0 + 9), .ref (n0 + 10), .ref (n0 + 11), .ref (n0 + 12), .ref (n0 + 13), .ref (n0 + 14), .ref (n0 + 15), .ref (n0 + 16), .int (kz 1), .int (kz 0), .int (kz 0), .ref (n0 + 17), .ref (n0 + 18), .ref (n0 + 19), .int (kz 0), .ref (n0 + 20), .int (kz 0), .ref (n0 + 21), .ref (n0 + 22), .ref (n0 + 23), .ref (n0 + 24), .ref (n0 + 25), .int (kz 0), .int (kz 0), .long 0, .long 0, .int (kz 0), .int (kz 0), .ref (n0 + 26), .null, .null, .null, .null, .null, .int (kz 0), .null, .null])) H := c9
  clear oq c9 hz9
  refine lv_aload_n hx hb dX12_init_232 rfl (lv_at hl 0 rfl) ?_
  refine lv_bipush (v := kz 8) hx hb dX12_init_233 (by decide) ?_
  refine jz_newa (atype := .int) (ty := .int) (N := 8) hx hb (hts (.arrayClass .int) (by decide +kernel)) rfl hK 0 rfl hS (a0 := (8, .inl (fun _ => 0))) rfl (by decide) (by decide) (Nat.le_of_ble_eq_true rfl) (Nat.le_of_ble_eq_true rfl) dX12_init_235 (fun x9 H hx9 c9 oq hz9 hS => ?_)
  have hx8 : x9 = n0 + 27 := hx9.trans hw.1
  rw [hx8] at c9 ⊢
  have hO := hO.kept (oq _ hO.lt)
  have hw := iw_new (t := (141, 20, 8, 0, 40)) hw c9 oq hz9 rfl (iv_e20 (ok20_z (by decide)))
  clear oq c9 hz9 hx9 hx8
  refine iz_putF (D := (dC, dI)) (ci := 12) (v := .ref (n0 + 27)) (ty := .array .int) (C := RX12) (T := TX12) (N := 49) hx hb hts hin tyX12 tyX12_ok nmX12 hown hK hO hS hA0 rfl 41 (by decide) (hts (.fieldLink RX12 99 "JoinBenchModel" "toldMany" "[I") (by decide +kernel)) (fun _ h9 => h9) rfl hin2 rfl (by decide +kernel) rfl rfl (Nat.le_of_ble_eq_true rfl) dX12_init_237 (fun H locs c9 oq hS hz9 => ?_)
  have hw := iw_put hw h0 oq hz9
  have hO : va_at (dC, dI) vwCl (m0, .inr (12, [.ref (n0 + 0), .int (kz 0), .int (kz 0), .ref (n0 + 1), .ref (n0 + 2), .ref (n0 + 3), .ref (n0 + 4), .ref (n0 + 5), .ref (n0 + 6), .int (kz 0), .ref (n0 + 7), .ref (n0 + 8), .ref (n0 + 9), .ref (n0 + 10), .ref (n0 + 11), .ref (n0 + 12), .ref (n0 + 13), .ref (n0 + 14), .ref (n0 + 15), .ref (n0 + 16), .int (kz 1), .int (kz 0), .int (kz 0), .ref (n0 + 17), .ref (n0 + 18), .ref (n0 + 19), .int (kz 0), .ref (n0 + 20), .int (kz 0), .ref (n0 + 21), .ref (n0 + 22), .ref (n0 + 23), .ref (n0 + 24), .ref (n0 + 25), .int (kz 0), .int (kz 0), .long 0, .long 0, .int (kz 0), .int (kz 0), .ref (n0 + 26), .ref (n0 + 27), .null, .null, .null, .null, .int (kz 0), .null, .null])) H := c9
  clear oq c9 hz9
  refine lv_aload_n hx hb dX12_init_240 rfl (lv_at hl 0 rfl) ?_
  refine lv_sipush (v := kz 320) hx hb dX12_init_241 (by decide) ?_
  refine jz_newa (atype := .int) (ty := .int) (N := 320) hx hb (hts (.arrayClass .int) (by decide +kernel)) rfl hK 0 rfl hS (a0 := (320, .inl (fun _ => 0))) rfl (by decide) (by decide) (Nat.le_of_ble_eq_true rfl) (Nat.le_of_ble_eq_true rfl) dX12_init_244 (fun x9 H hx9 c9 oq hz9 hS => ?_)
  have hx8 : x9 = n0 + 28 := hx9.trans hw.1
  rw [hx8] at c9 ⊢
  have hO := hO.kept (oq _ hO.lt)
  have hw := iw_new (t := (142, 20, 320, 0, 39)) hw c9 oq hz9 rfl (iv_e20 (ok20_z (by decide)))
  clear oq c9 hz9 hx9 hx8
  refine iz_putF (D := (dC, dI)) (ci := 12) (v := .ref (n0 + 28)) (ty := .array .int) (C := RX12) (T := TX12) (N := 49) hx hb hts hin tyX12 tyX12_ok nmX12 hown hK hO hS hA0 rfl 42 (by decide) (hts (.fieldLink RX12 102 "JoinBenchModel" "toldForm" "[I") (by decide +kernel)) (fun _ h9 => h9) rfl hin2 rfl (by decide +kernel) rfl rfl (Nat.le_of_ble_eq_true rfl) dX12_init_246 (fun H locs c9 oq hS hz9 => ?_)
  have hw := iw_put hw h0 oq hz9
  have hO : va_at (dC, dI) vwCl (m0, .inr (12, [.ref (n0 + 0), .int (kz 0), .int (kz 0), .ref (n0 + 1), .ref (n0 + 2), .ref (n0 + 3), .ref (n0 + 4), .ref (n0 + 5), .ref (n0 + 6), .int (kz 0), .ref (n0 + 7), .ref (n0 + 8), .ref (n0 + 9), .ref (n0 + 10), .ref (n0 + 11), .ref (n0 + 12), .ref (n0 + 13), .ref (n0 + 14), .ref (n0 + 15), .ref (n0 + 16), .int (kz 1), .int (kz 0), .int (kz 0), .ref (n0 + 17), .ref (n0 + 18), .ref (n0 + 19), .int (kz 0), .ref (n0 + 20), .int (kz 0), .ref (n0 + 21), .ref (n0 + 22), .ref (n0 + 23), .ref (n0 + 24), .ref (n0 + 25), .int (kz 0), .int (kz 0), .long 0, .long 0, .int (kz 0), .int (kz 0), .ref (n0 + 26), .ref (n0 + 27), .ref (n0 + 28), .null, .null, .null, .int (kz 0), .null, .null])) H := c9
  clear oq c9 hz9
  refine lv_aload_n hx hb dX12_init_249 rfl (lv_at hl 0 rfl) ?_
  refine lv_sipush (v := kz 320) hx hb dX12_init_250 (by decide) ?_
  refine jz_newa (atype := .int) (ty := .int) (N := 320) hx hb (hts (.arrayClass .int) (by decide +kernel)) rfl hK 0 rfl hS (a0 := (320, .inl (fun _ => 0))) rfl (by decide) (by decide) (Nat.le_of_ble_eq_true rfl) (Nat.le_of_ble_eq_true rfl) dX12_init_253 (fun x9 H hx9 c9 oq hz9 hS => ?_)
  have hx8 : x9 = n0 + 29 := hx9.trans hw.1
  rw [hx8] at c9 ⊢
  have hO := hO.kept (oq _ hO.lt)
  have hw := iw_new (t := (143, 20, 320, -2147483648, 2147483647)) hw c9 oq hz9 rfl (iv_e20 (ok20_z (by decide)))
  clear oq c9 hz9 hx9 hx8
  refine iz_putF (D := (dC, dI)) (ci := 12) (v := .ref (n0 + 29)) (ty := .array .int) (C := RX12) (T := TX12) (N := 49) hx hb hts hin tyX12 tyX12_ok nmX12 hown hK hO hS hA0 rfl 43 (by decide) (hts (.fieldLink RX12 105 "JoinBenchModel" "toldRule" "[I") (by decide +kernel)) (fun _ h9 => h9) rfl hin2 rfl (by decide +kernel) rfl rfl (Nat.le_of_ble_eq_true rfl) dX12_init_255 (fun H locs c9 oq hS hz9 => ?_)
  have hw := iw_put hw h0 oq hz9
  have hO : va_at (dC, dI) vwCl (m0, .inr (12, [.ref (n0 + 0), .int (kz 0), .int (kz 0), .ref (n0 + 1), .ref (n0 + 2), .ref (n0 + 3), .ref (n0 + 4), .ref (n0 + 5), .ref (n0 + 6), .int (kz 0), .ref (n0 + 7), .ref (n0 + 8), .ref (n0 + 9), .ref (n0 + 10), .ref (n0 + 11), .ref (n0 + 12), .ref (n0 + 13), .ref (n0 + 14), .ref (n0 + 15), .ref (n0 + 16), .int (kz 1), .int (kz 0), .int (kz 0), .ref (n0 + 17), .ref (n0 + 18), .ref (n0 + 19), .int (kz 0), .ref (n0 + 20), .int (kz 0), .ref (n0 + 21), .ref (n0 + 22), .ref (n0 + 23), .ref (n0 + 24), .ref (n0 + 25), .int (kz 0), .int (kz 0), .long 0, .long 0, .int (kz 0), .int (kz 0), .ref (n0 + 26), .ref (n0 + 27), .ref (n0 + 28), .ref (n0 + 29), .null, .null, .int (kz 0), .null, .null])) H := c9
  clear oq c9 hz9
  refine lv_aload_n hx hb dX12_init_258 rfl (lv_at hl 0 rfl) ?_
  refine lv_bipush (v := kz 40) hx hb dX12_init_259 (by decide) ?_
  refine jz_newa (atype := .int) (ty := .int) (N := 40) hx hb (hts (.arrayClass .int) (by decide +kernel)) rfl hK 0 rfl hS (a0 := (40, .inl (fun _ => 0))) rfl (by decide) (by decide) (Nat.le_of_ble_eq_true rfl) (Nat.le_of_ble_eq_true rfl) dX12_init_261 (fun x9 H hx9 c9 oq hz9 hS => ?_)
  have hx8 : x9 = n0 + 30 := hx9.trans hw.1
  rw [hx8] at c9 ⊢
  have hO := hO.kept (oq _ hO.lt)
  have hw := iw_new (t := (144, 20, 40, 0, 8)) hw c9 oq hz9 rfl (iv_e20 (ok20_z (by decide)))
  clear oq c9 hz9 hx9 hx8
  refine iz_putF (D := (dC, dI)) (ci := 12) (v := .ref (n0 + 30)) (ty := .array .int) (C := RX12) (T := TX12) (N := 49) hx hb hts hin tyX12 tyX12_ok nmX12 hown hK hO hS hA0 rfl 44 (by decide) (hts (.fieldLink RX12 108 "JoinBenchModel" "nextOf" "[I") (by decide +kernel)) (fun _ h9 => h9) rfl hin2 rfl (by decide +kernel) rfl rfl (Nat.le_of_ble_eq_true rfl) dX12_init_263 (fun H locs c9 oq hS hz9 => ?_)
  have hw := iw_put hw h0 oq hz9
  have hO : va_at (dC, dI) vwCl (m0, .inr (12, [.ref (n0 + 0), .int (kz 0), .int (kz 0), .ref (n0 + 1), .ref (n0 + 2), .ref (n0 + 3), .ref (n0 + 4), .ref (n0 + 5), .ref (n0 + 6), .int (kz 0), .ref (n0 + 7), .ref (n0 + 8), .ref (n0 + 9), .ref (n0 + 10), .ref (n0 + 11), .ref (n0 + 12), .ref (n0 + 13), .ref (n0 + 14), .ref (n0 + 15), .ref (n0 + 16), .int (kz 1), .int (kz 0), .int (kz 0), .ref (n0 + 17), .ref (n0 + 18), .ref (n0 + 19), .int (kz 0), .ref (n0 + 20), .int (kz 0), .ref (n0 + 21), .ref (n0 + 22), .ref (n0 + 23), .ref (n0 + 24), .ref (n0 + 25), .int (kz 0), .int (kz 0), .long 0, .long 0, .int (kz 0), .int (kz 0), .ref (n0 + 26), .ref (n0 + 27), .ref (n0 + 28), .ref (n0 + 29), .ref (n0 + 30), .null, .int (kz 0), .null, .null])) H := c9
  clear oq c9 hz9
  refine lv_aload_n hx hb dX12_init_266 rfl (lv_at hl 0 rfl) ?_
  refine lv_sipush (v := kz 9600) hx hb dX12_init_267 (by decide) ?_
  refine jz_newa (atype := .long) (ty := .long) (N := 9600) hx hb (hts (.arrayClass .long) (by decide +kernel)) rfl hK 3 rfl hS (a0 := (9600, .inr (.inl (fun _ => 0)))) rfl (by decide) (by decide) (Nat.le_of_ble_eq_true rfl) (Nat.le_of_ble_eq_true rfl) dX12_init_270 (fun x9 H hx9 c9 oq hz9 hS => ?_)
  have hx8 : x9 = n0 + 31 := hx9.trans hw.1
  rw [hx8] at c9 ⊢
  have hO := hO.kept (oq _ hO.lt)
  have hw := iw_new (t := (145, 23, 9600, 0, 0)) hw c9 oq hz9 rfl iv_e23
  clear oq c9 hz9 hx9 hx8
  refine iz_putF (D := (dC, dI)) (ci := 12) (v := .ref (n0 + 31)) (ty := .array .long) (C := RX12) (T := TX12) (N := 49) hx hb hts hin tyX12 tyX12_ok nmX12 hown hK hO hS hA0 rfl 45 (by decide) (hts (.fieldLink RX12 111 "JoinBenchModel" "grown" "[J") (by decide +kernel)) (fun _ h9 => h9) rfl hin2 rfl (by decide +kernel) rfl rfl (Nat.le_of_ble_eq_true rfl) dX12_init_272 (fun H locs c9 oq hS hz9 => ?_)
  have hw := iw_put hw h0 oq hz9
  have hO : va_at (dC, dI) vwCl (m0, .inr (12, [.ref (n0 + 0), .int (kz 0), .int (kz 0), .ref (n0 + 1), .ref (n0 + 2), .ref (n0 + 3), .ref (n0 + 4), .ref (n0 + 5), .ref (n0 + 6), .int (kz 0), .ref (n0 + 7), .ref (n0 + 8), .ref (n0 + 9), .ref (n0 + 10), .ref (n0 + 11), .ref (n0 + 12), .ref (n0 + 13), .ref (n0 + 14), .ref (n0 + 15), .ref (n0 + 16), .int (kz 1), .int (kz 0), .int (kz 0), .ref (n0 + 17), .ref (n0 + 18), .ref (n0 + 19), .int (kz 0), .ref (n0 + 20), .int (kz 0), .ref (n0 + 21), .ref (n0 + 22), .ref (n0 + 23), .ref (n0 + 24), .ref (n0 + 25), .int (kz 0), .int (kz 0), .long 0, .long 0, .int (kz 0), .int (kz 0), .ref (n0 + 26), .ref (n0 + 27), .ref (n0 + 28), .ref (n0 + 29), .ref (n0 + 30), .ref (n0 + 31), .int (kz 0), .null, .null])) H := c9
  clear oq c9 hz9
  refine lv_aload_n hx hb dX12_init_275 rfl (lv_at hl 0 rfl) ?_
  refine lv_bipush (v := kz 31) hx hb dX12_init_276 (by decide) ?_
  refine jz_newa (atype := .int) (ty := .int) (N := 31) hx hb (hts (.arrayClass .int) (by decide +kernel)) rfl hK 0 rfl hS (a0 := (31, .inl (fun _ => 0))) rfl (by decide) (by decide) (Nat.le_of_ble_eq_true rfl) (Nat.le_of_ble_eq_true rfl) dX12_init_278 (fun x9 H hx9 c9 oq hz9 hS => ?_)
  have hx8 : x9 = n0 + 32 := hx9.trans hw.1
  rw [hx8] at c9 ⊢
  have hO := hO.kept (oq _ hO.lt)
  have hw := iw_new (t := (147, 20, 31, 0, 40)) hw c9 oq hz9 rfl (iv_e20 (ok20_z (by decide)))
  clear oq c9 hz9 hx9 hx8
  refine iz_putF (D := (dC, dI)) (ci := 12) (v := .ref (n0 + 32)) (ty := .array .int) (C := RX12) (T := TX12) (N := 49) hx hb hts hin tyX12 tyX12_ok nmX12 hown hK hO hS hA0 rfl 47 (by decide) (hts (.fieldLink RX12 114 "JoinBenchModel" "formsThen" "[I") (by decide +kernel)) (fun _ h9 => h9) rfl hin2 rfl (by decide +kernel) rfl rfl (Nat.le_of_ble_eq_true rfl) dX12_init_280 (fun H locs c9 oq hS hz9 => ?_)
  have hw := iw_put hw h0 oq hz9
  have hO : va_at (dC, dI) vwCl (m0, .inr (12, [.ref (n0 + 0), .int (kz 0), .int (kz 0), .ref (n0 + 1), .ref (n0 + 2), .ref (n0 + 3), .ref (n0 + 4), .ref (n0 + 5), .ref (n0 + 6), .int (kz 0), .ref (n0 + 7), .ref (n0 + 8), .ref (n0 + 9), .ref (n0 + 10), .ref (n0 + 11), .ref (n0 + 12), .ref (n0 + 13), .ref (n0 + 14), .ref (n0 + 15), .ref (n0 + 16), .int (kz 1), .int (kz 0), .int (kz 0), .ref (n0 + 17), .ref (n0 + 18), .ref (n0 + 19), .int (kz 0), .ref (n0 + 20), .int (kz 0), .ref (n0 + 21), .ref (n0 + 22), .ref (n0 + 23), .ref (n0 + 24), .ref (n0 + 25), .int (kz 0), .int (kz 0), .long 0, .long 0, .int (kz 0), .int (kz 0), .ref (n0 + 26), .ref (n0 + 27), .ref (n0 + 28), .ref (n0 + 29), .ref (n0 + 30), .ref (n0 + 31), .int (kz 0), .ref (n0 + 32), .null])) H := c9
  clear oq c9 hz9
  refine lv_aload_n hx hb dX12_init_283 rfl (lv_at hl 0 rfl) ?_
  refine lv_sipush (v := kz 1860) hx hb dX12_init_284 (by decide) ?_
  refine jz_newa (atype := .int) (ty := .int) (N := 1860) hx hb (hts (.arrayClass .int) (by decide +kernel)) rfl hK 0 rfl hS (a0 := (1860, .inl (fun _ => 0))) rfl (by decide) (by decide) (Nat.le_of_ble_eq_true rfl) (Nat.le_of_ble_eq_true rfl) dX12_init_287 (fun x9 H hx9 c9 oq hz9 hS => ?_)
  have hx8 : x9 = n0 + 33 := hx9.trans hw.1
  rw [hx8] at c9 ⊢
  have hO := hO.kept (oq _ hO.lt)
  have hw := iw_new (t := (148, 20, 1860, -2147483648, 2147483647)) hw c9 oq hz9 rfl (iv_e20 (ok20_z (by decide)))
  clear oq c9 hz9 hx9 hx8
  refine iz_putF (D := (dC, dI)) (ci := 12) (v := .ref (n0 + 33)) (ty := .array .int) (C := RX12) (T := TX12) (N := 49) hx hb hts hin tyX12 tyX12_ok nmX12 hown hK hO hS hA0 rfl 48 (by decide) (hts (.fieldLink RX12 117 "JoinBenchModel" "were" "[I") (by decide +kernel)) (fun _ h9 => h9) rfl hin2 rfl (by decide +kernel) rfl rfl (Nat.le_of_ble_eq_true rfl) dX12_init_289 (fun H locs c9 oq hS hz9 => ?_)
  have hw := iw_put hw h0 oq hz9
  have hO : va_at (dC, dI) vwCl (m0, .inr (12, [.ref (n0 + 0), .int (kz 0), .int (kz 0), .ref (n0 + 1), .ref (n0 + 2), .ref (n0 + 3), .ref (n0 + 4), .ref (n0 + 5), .ref (n0 + 6), .int (kz 0), .ref (n0 + 7), .ref (n0 + 8), .ref (n0 + 9), .ref (n0 + 10), .ref (n0 + 11), .ref (n0 + 12), .ref (n0 + 13), .ref (n0 + 14), .ref (n0 + 15), .ref (n0 + 16), .int (kz 1), .int (kz 0), .int (kz 0), .ref (n0 + 17), .ref (n0 + 18), .ref (n0 + 19), .int (kz 0), .ref (n0 + 20), .int (kz 0), .ref (n0 + 21), .ref (n0 + 22), .ref (n0 + 23), .ref (n0 + 24), .ref (n0 + 25), .int (kz 0), .int (kz 0), .long 0, .long 0, .int (kz 0), .int (kz 0), .ref (n0 + 26), .ref (n0 + 27), .ref (n0 + 28), .ref (n0 + 29), .ref (n0 + 30), .ref (n0 + 31), .int (kz 0), .ref (n0 + 32), .ref (n0 + 33)])) H := c9
  clear oq c9 hz9
  have hI := iw_iv hw hA
  have hM : mS (mX n0) A m0 (mam n0) := mX_S h0 hA0
  have hO : va_at (dC, dI) vwCl (m0, .inr (12, mM (mam n0) mzi mzl)) H := hO
  have g18 : (mX n0).1 (mam n0 18) = (118, 20, 36, -1, 5) := hM.1 18 _ rfl (by decide)
  have w18 : (mX n0).2 (mam n0 18) = 0 := rfl
  clear hw hsz
  generalize mX n0 = X at hI hM g18 w18 ⊢
  generalize mam n0 = am at hM hO g18 w18 ⊢
  refine lv_iconst (v := kz 0) hx hb dX12_init_292 rfl ?_
  refine lv_istore_n (lv' := [(1, .int (kz 0)), (0, .ref m0)]) hx hb dX12_init_293 rfl hl (by decide) rfl (fun ls hl => ?_)
  refine iz_loop1 (P := fun N9 k H locs ls => 0 ≤ k ∧ k ≤ 36 ∧ 36 - k ≤ (N9 : Int) ∧ lv_has ls 2 [(1, .int (kz k)), (0, .ref m0)] ∧ iv (dC, dI) ca A X H ∧ va_at (dC, dI) vwCl (m0, .inr (12, mM am mzi mzl)) H ∧ va_S A s.heap H locs) 36 (x0 := 0) ?_ ⟨by omega, by omega, by omega, lv_sub hl [0, 1] rfl, hI, hO, hS⟩
  clear hI hO hS hl
  intro n_1 k H locs ls ⟨n_1f0, n_1f1, n_1f2, hl, hI, hO, hS⟩ ihn_1
  refine lv_iload_n hx hb dX12_init_294 rfl (lv_at hl 0 rfl) ?_
  refine lv_bipush (v := kz 36) hx hb dX12_init_295 (by decide) ?_
  refine iz_ge (tgt := 313) hx hb dX12_init_297 (by decide) (by unfold rg2; omega) (fun br_2 => ?_) (fun br_2 => ?_)
  · exact W.vret hx hb hr (fun t9 ht hW => ⟨⟨(), rfl, trivial, va_K.moved hW.alike hK, by rw [ht]; exact ⟨hI, hO⟩⟩, hS.F ht⟩) hS.2.2 dX12_init_313
  · refine lv_aload_n hx hb dX12_init_300 rfl (lv_at hl 1 rfl) ?_
    refine iz_get (D := (dC, dI)) (ci := 12) (v := .ref (am 18)) (C := RX12) (T := TX12) (N := 49) hx hb hts hin hown hK hO rfl 18 (by decide) (hts (.fieldLink RX12 57 "JoinBenchModel" "tree" "[I") (by decide +kernel)) (fun _ h9 => h9) rfl dX12_init_301 ?_
    refine lv_iload_n hx hb dX12_init_304 rfl (lv_at hl 0 rfl) ?_
    refine lv_iconst (v := kz (-1)) hx hb dX12_init_305 rfl ?_
    obtain ⟨f18_7, c_f18_7, k_f18_7⟩ := iv_o20 hI g18
    refine iz_iast hx hb hK 0 c_f18_7 hS (iv_A hI g18 (by decide)) rfl (by omega) (by decide) dX12_init_306 (fun H locs c9 oq hS => ?_)
    have hI := iv_s20 hI g18 k_f18_7 c9 oq (by omega) (by omega) (by decide) (by omega)
    have hO := hO.kept (oq _ (iv_ne0 g18 hM.2.1 (by decide)).symm)
    clear oq c9
    refine lv_iinc (v := kz (k + 1)) (lv' := [(1, .int (kz (k + 1))), (0, .ref m0)]) hx hb dX12_init_307 hl (k := 0) rfl (kz_add k 1) (by decide) rfl (fun ls hl => ?_)
    refine lv_goto (tgt := 294) hx hb dX12_init_310 (by decide) ?_
    exact ihn_1 (n_1 - 1) (by omega) (k + 1) _ _ _ ⟨by omega, by omega, by omega, lv_sub hl [0, 1] rfl, hI, hO, hS⟩
