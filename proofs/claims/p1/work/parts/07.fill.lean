theorem nI_inc (i : Nat) : nI i + Int32.ofInt 1 = nI (i + 1) := by rw [show Int32.ofInt 1 = (1 : Int32) from by decide]; exact nI_1 i
theorem up_all {fk : Nat → Int32} {v : Int32} {i : Nat} (hi : i < 36) (hf : ∀ j, j < i → fk j = v) : ∀ j, j < i + 1 → upd fk (nI i : Int32).toNatClampNeg v j = v := fun j hj => by
  rw [nI_clamp (by omega)]
  by_cases q : j = i
  · subst q; exact pk_us
  · rw [pk_un q]; exact hf j (by omega)
set_option maxHeartbeats 4000000 in
set_option maxRecDepth 100000 in
/-- Arrays.fill(int[36], v): its loop -/
theorem j_fill_loop {p : Program} {l : Launch} {e : Env} {R : Room} {s : State} {m : MethodId} {args : Array Value} {below : List Frame} {meth : Method} {c : Code} {H0 : Heap} {cells slots : Nat} {Q : State → Prop} {A : Nat → Prop} {dC : Nat → ClassId} {dI : Nat → Nat → Nat} {a : Nat} {v : Int32} {cI : ClassId} (hx : p.tables.exec = Jvm.exec) (hb : c.code = cJ7_fill_53178) (hts : ∀ w ∈ wsJ7_fill_53178, w.before args s = true) (hown : s.vm.findClass RJ7 = some m.cls) (hK : va_K (dC, dI) vwCl [(cI, .int)] s)
    (kk : ∀ (fk : Nat → Int32) (H : Heap) (locs : List Loc) (ls : Array Slot), (∀ j, j < 36 → fk j = v) → va_P (dC, dI) vwCl [(a, .inl (cI, 36, .inl fk))] H → va_D A [(a, .inl (cI, 36, .inl fk))] → va_S A H0 H locs → lv_has ls 4 [(3, .int 36), (2, .int (nI 36)), (0, .ref a), (1, .int v)] → W p l e R s m args below meth c H locs cells slots Q (F0 m 20 ls [])) :
    ∀ (n i : Nat) (fk : Nat → Int32) (H : Heap) (locs : List Loc) (ls : Array Slot), i ≤ 36 → 36 ≤ i + n → (∀ j, j < i → fk j = v) → va_P (dC, dI) vwCl [(a, .inl (cI, 36, .inl fk))] H → va_D A [(a, .inl (cI, 36, .inl fk))] → va_S A H0 H locs → lv_has ls 4 [(3, .int 36), (2, .int (nI i)), (0, .ref a), (1, .int v)] → W p l e R s m args below meth c H locs cells slots Q (F0 m 5 ls []) := by
  intro n
  induction n with
  | zero =>
    intro i fk H locs ls h1 h2 hf hP hD hS hl
    obtain rfl : i = 36 := by omega
    refine lv_iload_n hx hb dJ7_fill_53178_5 rfl (lv_at hl 1 rfl) ?_
    refine lv_iload_n hx hb dJ7_fill_53178_6 rfl (lv_at hl 0 rfl) ?_
    refine lv_icmp_ge (tgt := 20) hx hb dJ7_fill_53178_7 (by decide) (fun c_1 => ?_) (fun c_1 => ?_)
    rotate_left
    · exact absurd (by decide) c_1
    exact kk fk H locs ls hf hP hD hS (lv_sub hl [0, 1, 2, 3] rfl)
  | succ n ih =>
    intro i fk H locs ls h1 h2 hf hP hD hS hl
    rcases Nat.lt_or_ge i 36 with hi | hi
    · refine lv_iload_n hx hb dJ7_fill_53178_5 rfl (lv_at hl 1 rfl) ?_
      refine lv_iload_n hx hb dJ7_fill_53178_6 rfl (lv_at hl 0 rfl) ?_
      refine lv_icmp_ge (tgt := 20) hx hb dJ7_fill_53178_7 (by decide) (fun c_1 => ?_) (fun c_1 => ?_)
      · exact absurd c_1 (nI_ge hi (by decide))
      refine lv_aload_n hx hb dJ7_fill_53178_10 rfl (lv_at hl 2 rfl) ?_
      refine lv_iload_n hx hb dJ7_fill_53178_11 rfl (lv_at hl 1 rfl) ?_
      refine lv_iload_n hx hb dJ7_fill_53178_12 rfl (lv_at hl 3 rfl) ?_
      refine va_iast hx hb hK hP hD hS 0 0 rfl rfl (vp_in_nI hi (by decide)) dJ7_fill_53178_13 (fun H locs hP hD hS => ?_)
      have hP : va_P (dC, dI) vwCl [(a, .inl (cI, 36, .inl (upd fk (nI i : Int32).toNatClampNeg v)))] H := hP
      have hD : va_D A [(a, .inl (cI, 36, .inl (upd fk (nI i : Int32).toNatClampNeg v)))] := hD
      refine lv_iinc (v := nI (i + 1)) (lv' := [(2, .int (nI (i + 1))), (3, .int 36), (0, .ref a), (1, .int v)]) hx hb dJ7_fill_53178_14 hl (k := 1) rfl (nI_inc i) (by decide) rfl (fun ls hl => ?_)
      refine lv_goto (tgt := 5) hx hb dJ7_fill_53178_17 (by decide) ?_
      exact ih (i + 1) _ H locs ls (by omega) (by omega) (up_all hi hf) hP hD hS (lv_sub hl [1, 0, 2, 3] rfl)
    · obtain rfl : i = 36 := by omega
      refine lv_iload_n hx hb dJ7_fill_53178_5 rfl (lv_at hl 1 rfl) ?_
      refine lv_iload_n hx hb dJ7_fill_53178_6 rfl (lv_at hl 0 rfl) ?_
      refine lv_icmp_ge (tgt := 20) hx hb dJ7_fill_53178_7 (by decide) (fun c_1 => ?_) (fun c_1 => ?_)
      rotate_left
      · exact absurd (by decide) c_1
      exact kk fk H locs ls hf hP hD hS (lv_sub hl [0, 1, 2, 3] rfl)
set_option maxHeartbeats 4000000 in
set_option maxRecDepth 100000 in
/-- J7_fill_53178 -/
theorem j_fill (l : Launch) (dC : Nat → ClassId) (dI : Nat → Nat → Nat) (sz : Nat) (a : Nat) (cI : ClassId) (f : Nat → Int32) (v : Int32) : Met l yJ7_fill_53178 wsJ7_fill_53178 ({ frames := 0, cells := 0, slots := 0, locals := 0 }) (va_Pc [.ref a, .int v] (fun U => U.heap.size = sz ∧ va_P (dC, dI) vwCl [(a, .inl (cI, 36, .inl f))] U.heap ∧ va_K (dC, dI) vwCl [(cI, .int)] U ∧ va_D (fun _ => True) [(a, .inl (cI, 36, .inl f))])) (va_Qv (fun (u : Nat → Int32) => ∀ j, j < 36 → u j = v) (fun (u : Nat → Int32) (t : State) => va_P (dC, dI) vwCl [(a, .inl (cI, 36, .inl u))] t.heap ∧ va_K (dC, dI) vwCl [(cI, .int)] t ∧ va_D (va_A [(a, .inl (cI, 36, .inl f))] sz) [(a, .inl (cI, 36, .inl u))]) (va_A [(a, .inl (cI, 36, .inl f))] sz)) 0 0 (va_A [(a, .inl (cI, 36, .inl f))] sz) := by
  refine Met.ofW (cc := cJ7_fill_53178) (maxL := 4) (ret := none) (by decide) rfl ?_
  intro p e s m args below meth c s₁ B hml hv
  obtain ⟨rfl, hsz, hP, hK, hD0⟩ := hv
  have hx := B.exec
  have hb := B.bytes
  have hr := B.returns
  have hts := atoms_spec (ws := wsJ7_fill_53178) B.pre
  have hown : s.vm.findClass RJ7 = some m.cls := findClass_of_methodNamed B.named
  have hlocks := B.notSynchronized
  subst hsz
  have hD := hD0.self (sz := s.heap.size)
  generalize hAe : va_A [(a, .inl (cI, 36, .inl f))] s.heap.size = A at hD ⊢
  have hA : ∀ q : Nat, s.heap.size ≤ q → A q := fun q h => by rw [← hAe]; exact Or.inr h
  obtain ⟨H, hH⟩ : ∃ H : Heap, H = s.heap := ⟨_, rfl⟩
  have hS : va_S A s.heap H [] := by rw [hH]; exact va_S.rf
  rw [← hH] at hP ⊢
  have hP : va_P (dC, dI) vwCl [(a, .inl (cI, 36, .inl f))] H := hP
  have hl := lv_entry ([.ref a, .int v]) (n := 4) (Nat.le_of_ble_eq_true rfl)
  rw [lg_entry_eq]
  generalize (lg_sl ([.ref a, .int v]) ++ List.replicate (4 - (lg_sl ([.ref a, .int v])).length) Slot.unset).toArray = ls at hl ⊢
  have hl : lv_has ls 4 [(0, .ref a), (1, .int v)] := hl
  refine lv_iconst (v := 0) hx hb dJ7_fill_53178_0 (by decide) ?_
  refine lv_istore_n (lv' := [(2, .int 0), (0, .ref a), (1, .int v)]) hx hb dJ7_fill_53178_1 rfl hl (by decide) rfl (fun ls hl => ?_)
  refine lv_aload_n hx hb dJ7_fill_53178_2 rfl (lv_at hl 1 rfl) ?_
  refine va_alen hx hb hK hP 0 0 rfl rfl (v := 36) rfl dJ7_fill_53178_3 ?_
  refine lv_istore_n (lv' := [(3, .int 36), (2, .int 0), (0, .ref a), (1, .int v)]) hx hb dJ7_fill_53178_4 rfl hl (by decide) rfl (fun ls hl => ?_)
  refine j_fill_loop hx hb hts hown hK (fun fk H locs ls hf hP hD hS hl => ?_) 36 0 f H [] ls (by omega) (by omega) (fun j hj => absurd hj (Nat.not_lt_zero j)) hP hD hS (lv_sub hl [0, 1, 2, 3] rfl)
  have hP9 := hP.sub (ws' := [(a, .inl (cI, 36, .inl fk))]) [0] rfl
  have hD9 := hD.sub (ws' := [(a, .inl (cI, 36, .inl fk))]) [0] (by decide) rfl
  have hK9 := hK.sub (tys' := [(cI, .int)]) [0] rfl
  refine W.widen (k := 0) (n := 0) (Nat.le_of_ble_eq_true rfl) (Nat.le_of_ble_eq_true rfl) ?_
  exact W.vret hx hb hr (fun t ht hW => ⟨⟨fk, rfl, hf, by rw [ht]; exact hP9, va_K.moved hW.alike hK9, hD9⟩, hS.F ht⟩) hS.2.2 dJ7_fill_53178_20
