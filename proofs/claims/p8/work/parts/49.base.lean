/-! rows for making cells and for copying: what is elsewhere stays -/
theorem irem30 : ∀ k : Nat, k < 61 → kz (k : Int) - kz (k : Int) / kz 30 * kz 30 = kz ((k % 30 : Nat) : Int) := by decide +kernel
theorem kz_rem30 {z : Int} (h : 0 ≤ z ∧ z ≤ 60) : ∃ w : Int, kz z - kz z / kz 30 * kz 30 = kz w ∧ 0 ≤ w ∧ w ≤ 29 := by
  obtain ⟨k, rfl⟩ := Int.eq_ofNat_of_zero_le h.1
  exact ⟨_, irem30 k (by omega), by omega, by omega⟩
theorem nfw : nativeFrameWords "java/lang/System" "arraycopy" 5 = 7 := by decide +kernel
theorem ks_3 (x : Int) (h : -2147483648 ≤ x ∧ x ≤ 2147483647) : (x < 0 ∨ 2 < x) ∨ x = 0 ∨ x = 1 ∨ x = 2 := by omega
theorem va_S_push {A : Nat → Prop} {H0 H H1 : Heap} {locs : List Loc} (hS : va_S A H0 H locs) (o1 : ∀ q : Nat, q < H.size → H1[q]? = H[q]?) (hz : H.size ≤ H1.size) : va_S A H0 H1 locs :=
  ⟨Nat.le_trans hS.1 hz, fun x h1 h2 => (o1 x (Nat.lt_of_lt_of_le h1 hS.1)).trans (hS.2.1 x h1 h2), hS.2.2⟩
section JC
variable {p : Program} {l : Launch} {e : Env} {R : Room} {s : State} {m : MethodId} {args : Array Value} {below : List Frame} {meth : Method} {c : Code} {H : Heap} {locs : List Loc} {cells slots : Nat} {Q : State → Prop}
variable {cc : ByteArray} {pc : Nat} {ls : Array Slot} {rest : List Value} {D : va_G} {A : Nat → Prop} {a : Nat} {tys : List (ClassId × FieldType)} {H0 : Heap} {ca : Nat → ClassId}
/-- System.arraycopy of ints, bytes .., from the first place on -/
theorem iz_copyi (hx : p.tables.exec = Jvm.exec) (hb : c.code = cc) (hml : c.maxLocals = ls.size) {own : String} {index : Nat} (hown : s.vm.findClass own = some m.cls) (hlink : (Cond.methodLink own index arraycopyName).before args s = true) (hnat : (Cond.native arraycopyName).before args s = true) (hstat : (Cond.static arraycopyName).before args s = true) (hini : (Cond.initialized "java/lang/System").before args s = true)
    (hK : va_K D vwCl tys s) (t0 : Nat) {a0 n0 n1 : Nat} {c0 : ClassId} {f g : Nat → Int32} {ty : FieldType} (h0 : va_at D vwCl (a0, .inl (c0, n0, .inl f)) H) (h1 : va_at D vwCl (a, .inl (c0, n1, .inl g)) H) (hS : va_S A H0 H locs) (hA : A a) (ht : tys[t0]? = some (c0, ty)) (hprim : refKind ty = false) {n : Int} (hn : 0 ≤ n ∧ n ≤ n0 ∧ n ≤ n1 ∧ n ≤ 2147483647) (hfit : ∀ i : Nat, i < n0 → fits ty (.int (f i)) = true)
    (hframes : 1 ≤ R.frames) (hlocals : (rest.map fun v => v.category).sum + 18 ≤ R.locals) (hd : decode cc pc = .ok (.invokestatic index, 3))
    (kk : ∀ (H1 : Heap) (locs1 : List Loc), va_at D vwCl (a, .inl (c0, n1, .inl (va_cpy f g 0 0 n.toNat))) H1 → (∀ q : Nat, q ≠ a → H1[q]? = H[q]?) → va_S A H0 H1 locs1 → W p l e R s m args below meth c H1 locs1 cells slots Q (F0 m (pc + 3) ls rest)) : W p l e R s m args below meth c H locs cells slots Q (F0 m pc ls (.int (kz n) :: .int (kz 0) :: .ref a :: .int (kz 0) :: .ref a0 :: rest)) := by
  intro T hT X
  have hc0 : H[a0]? = some (vp_cell c0 (n0, .inl f)) := h0
  have hc1 : H[a]? = some (vp_cell c0 (n1, .inl g)) := h1
  have l0 : ¬ kz 0 < 0 := by decide
  have t00 : (kz 0).toNatClampNeg = 0 := by decide
  have tn : (kz n).toNatClampNeg = n.toNat := kz_clamp hn.1 hn.2.2.2
  have ti : (kz n).toInt = n := kz_toInt (by omega) hn.2.2.2
  have ti0 : (kz 0).toInt = 0 := kz_toInt (by omega) (by omega)
  have ln : ¬ kz n < 0 := fun q => by
    rw [← kz_0, kz_lt ⟨by omega, by omega, by omega, by omega⟩] at q
    omega
  obtain ⟨-, k0, hk0, cm0, hkk0⟩ := (hK.2 t0 _ ht).1 n0 (fun j => .int (f j))
  obtain ⟨-, k1, hk1, cm1, hkk1⟩ := (hK.2 t0 _ ht).1 n1 (fun j => .int (g j))
  obtain ⟨vm', X', step⟩ := X.arraycopy hx hown hlink hnat hstat hini (src := a0) (dst := a) (cs := vp_cell c0 (n0, .inl f)) (cd := vp_cell c0 (n1, .inl g)) (srcPos := kz 0) (destPos := kz 0) (n := kz n) (by rw [hT]; exact hc0) (by rw [hT]; exact hc1)
    (fun _ h => by cases h) (fun _ h => by cases h) (fun h => by cases h) (fun h => by cases h) hk0 hk1 hkk0 hkk1 (by simp [hprim]) l0 l0 ln
    (by rw [ti, ti0]; show ¬ _ > ((arrV c0 n0 (fun j => .int (f j))).slots.size : Int); rw [arrV_size]; omega)
    (by rw [ti, ti0]; show ¬ _ > ((arrV c0 n1 (fun j => .int (g j))).slots.size : Int); rw [arrV_size]; omega)
    (fun vm₁ _ i hi => by
      rw [tn] at hi
      have e : (vp_cell c0 (n0, .inl f)).slots.getD ((kz 0).toNatClampNeg + i) .null = .int (f i) := by
        show (arrV c0 n0 (fun j => .int (f j))).slots.getD _ _ = _
        rw [t00, Nat.zero_add, Array.getD_eq_getD_getElem?, arrV_read _ _ (by omega)]
        rfl
      refine ⟨?_, ?_⟩
      · rw [e]
        exact hfit i (by omega)
      · rw [e]
        exact trivial)
    (g := F0 m pc ls (.int (kz n) :: .int (kz 0) :: .ref a :: .int (kz 0) :: .ref a0 :: rest)) rfl (by rw [hml]) (rest := rest) rfl (by rw [hb]; exact hd) hframes (by show 2 * 0 + _ + _ ≤ _; rw [nfw]; omega)
  have e1 : copied (vp_cell c0 (n0, .inl f)) (vp_cell c0 (n1, .inl g)) (kz 0) (kz 0) (kz n) = vp_cell c0 (n1, .inl (va_cpy f g (kz 0).toNatClampNeg (kz 0).toNatClampNeg (kz n).toNatClampNeg)) := va_copied (fun z => .int z) c0 c0 f g (by rw [t00, tn]; omega)
  rw [e1, t00, tn] at X' step
  have hl : a < H.size := (Array.getElem?_eq_some_iff.mp hc1).1
  have hheap : ((T.setVm vm').setCell a (vp_cell c0 (n1, .inl (va_cpy f g 0 0 n.toNat)))).heap = H.setIfInBounds a (vp_cell c0 (n1, .inl (va_cpy f g 0 0 n.toNat))) := by rw [← hT]; rfl
  have oq : ∀ q : Nat, q ≠ a → (H.setIfInBounds a (vp_cell c0 (n1, .inl (va_cpy f g 0 0 n.toNat))))[q]? = H[q]? := fun q hq => by simp [Array.getElem?_setIfInBounds, Ne.symm hq]
  obtain ⟨t, a1, b1⟩ := kk _ _ (show (H.setIfInBounds a _)[a]? = some _ by simp [Array.getElem?_setIfInBounds, hl]) oq ⟨by simp; exact hS.1, fun q g1 g2 => by
      rw [oq q (fun e => g2 (by rw [e]; exact hA))]
      exact hS.2.1 q g1 g2, fun q hq => by
      rcases List.mem_append.mp hq with h | h
      · exact hS.2.2 q h
      · obtain ⟨z, -, hz⟩ := List.mem_map.mp h
        rw [← hz]
        exact hA⟩ _ hheap X'
  exact ⟨t, step t a1, b1⟩
/-- an object made -/
theorem jz_new (hx : p.tables.exec = Jvm.exec) (hb : c.code = cc) {own C : String} {T : u_T} {N ci index : Nat} {Ts : List Cond} (hts : ∀ w ∈ Ts, w.before args s = true) (hin : ∀ w ∈ u_ws C T N, w ∈ Ts) (ty : Nat → FieldType) (hty : ∀ k, k < N → parseFieldDescriptor (T k).2.2.1 = some (ty k)) (hown : s.vm.findClass own = some m.cls) (hcl : (Cond.classLink own index C).before args s = true) (hinst : (Cond.instantiable C N).before args s = true) (hini : (Cond.initialized C).before args s = true)
    (hK : va_K D vwCl tys s) (hS : va_S A H0 H locs) (hc : vwCl[ci]? = some (C, T, N)) {fs : List Value} (hfs : ∀ j, j < N → defaultValue (ty j) = vp_V fs j) (hcells : cells + 1 ≤ R.cells) (hslots : slots + N ≤ R.slots) (hd : decode cc pc = .ok (.new index, 3))
    (kk : ∀ (x : Nat) (H1 : Heap), x = H.size → va_at D vwCl (x, .inr (ci, fs)) H1 → (∀ q : Nat, q < H.size → H1[q]? = H[q]?) → H1.size = H.size + 1 → va_S A H0 H1 locs → W p l e R s m args below meth c H1 locs (cells + 1) (slots + N) Q (F0 m (pc + 3) ls (.ref x :: rest))) : W p l e R s m args below meth c H locs cells slots Q (F0 m pc ls rest) := by
  have hKn := hK.1 ci _ hc
  refine W.newcK hx hb hown hcl hinst hini rfl hd hcells hslots hKn.2.1 rfl fun H1 kC hkC e1 z1 o1 => ?_
  exact kk H.size H1 rfl ⟨_, hc, (u_born ty hts hin hKn hkC e1 hty).to hfs⟩ o1 z1 (va_S_push hS o1 (by omega))
/-- an array of numbers made -/
theorem jz_newa (hx : p.tables.exec = Jvm.exec) (hb : c.code = cc) {atype : ArrayType} (harr : (Cond.arrayClass (newarray.typeOf atype)).before args s = true) {ty : FieldType} (hty : newarray.typeOf atype = ty) (hK : va_K D vwCl tys s) (t0 : Nat) {cA : ClassId} (ht : tys[t0]? = some (cA, ty)) (hS : va_S A H0 H locs)
    {n : Int} {N : Nat} {a0 : vp_A} (ha : vp_cell cA a0 = arrV cA N (fun _ => defaultValue ty)) (hn : n = N ∧ n ≤ 2147483647) (hbytes : N * componentBytes ty ≤ 536870912) (hcells : cells + 1 ≤ R.cells) (hslots : slots + N ≤ R.slots) (hd : decode cc pc = .ok (.newarray atype, 2))
    (kk : ∀ (x : Nat) (H1 : Heap), x = H.size → va_at D vwCl (x, .inl (cA, a0)) H1 → (∀ q : Nat, q < H.size → H1[q]? = H[q]?) → H1.size = H.size + 1 → va_S A H0 H1 locs → W p l e R s m args below meth c H1 locs (cells + 1) (slots + N) Q (F0 m (pc + 2) ls (.ref x :: rest))) : W p l e R s m args below meth c H locs cells slots Q (F0 m pc ls (.int (kz n) :: rest)) := by
  subst hty
  have ln : ¬ kz n < 0 := fun q => by
    rw [← kz_0, kz_lt ⟨by omega, by omega, by omega, by omega⟩] at q
    omega
  refine va_newaK hx hb harr rfl hd rfl ln (by rw [kz_clamp (by omega) hn.2]; omega) hbytes hcells hslots rfl fun H1 cB e1 z1 o1 hAr hNm => ?_
  have hcA : s.vm.findClass ("[" ++ (newarray.typeOf atype).toString) = some cA := by
    have h9 := (hK.2 t0 _ ht).2
    cases atype <;> exact h9
  obtain rfl : cB = cA := Option.some.inj (hNm.symm.trans hcA)
  refine kk H.size H1 rfl ?_ o1 z1 (va_S_push hS o1 (by omega))
  show H1[H.size]? = some (vp_cell cB a0)
  rw [ha]
  exact e1
/-- an array of references made -/
theorem jz_newq (hx : p.tables.exec = Jvm.exec) (hb : c.code = cc) {own C : String} {index : Nat} (hown : s.vm.findClass own = some m.cls) (hclink : (Cond.classLink own index C).before args s = true) (hover : va_AO C s) (hK : va_K D vwCl tys s) (t0 : Nat) {kd : Nat} (ht : tys[t0]? = some (ca kd, .object C)) (hS : va_S A H0 H locs)
    {n : Int} {N : Nat} (hn : n = N ∧ n ≤ 2147483647) (hbytes : N * 4 ≤ 536870912) (hcells : cells + 1 ≤ R.cells) (hslots : slots + N ≤ R.slots) (hd : decode cc pc = .ok (.anewarray index, 3))
    (kk : ∀ (x : Nat) (H1 : Heap), x = H.size → va_at D vwCl (x, je_q ca N kd (fun _ => none)) H1 → (∀ q : Nat, q < H.size → H1[q]? = H[q]?) → H1.size = H.size + 1 → va_S A H0 H1 locs → W p l e R s m args below meth c H1 locs (cells + 1) (slots + N) Q (F0 m (pc + 3) ls (.ref x :: rest))) : W p l e R s m args below meth c H locs cells slots Q (F0 m pc ls (.int (kz n) :: rest)) := by
  have ln : ¬ kz n < 0 := fun q => by
    rw [← kz_0, kz_lt ⟨by omega, by omega, by omega, by omega⟩] at q
    omega
  have tn : (kz n).toNatClampNeg = N := by rw [kz_clamp (by omega) hn.2]; omega
  refine W.anew hx hb hown hclink (va_AO.use hover) rfl hd rfl ln (by rw [tn]; exact hbytes) hcells (by rw [tn]; exact hslots) fun cB kA comp f1 f2 f3 f4 => ?_
  rw [tn]
  obtain ⟨k9, comp9, g1, g2, g3, g4⟩ := (hK.2 t0 _ ht).2
  obtain rfl : cB = ca kd := Option.some.inj (f1.symm.trans g4)
  generalize hH1 : H.push ({ cls := ca kd, slots := Array.replicate N .null, vm := .none } : Cell) = H1
  have z1 : H1.size = H.size + 1 := by rw [← hH1, Array.size_push]
  have e1 : H1[H.size]? = some (arrV (ca kd) N (fun _ => .null)) := by rw [← hH1, Array.getElem?_push_size, ← arrV_new]
  have o1 : ∀ q : Nat, q < H.size → H1[q]? = H[q]? := fun q hq => by rw [← hH1, Array.getElem?_push, if_neg (Nat.ne_of_lt hq)]
  exact kk H.size H1 rfl e1 o1 z1 (va_S_push hS o1 (by omega))
/-- an array of arrays made -/
theorem jz_mna (hx : p.tables.exec = Jvm.exec) (hb : c.code = cc) {own : String} {index : Nat} {ty : FieldType} (hown : s.vm.findClass own = some m.cls) (hcl : (Cond.classLink own index ("[" ++ (FieldType.array ty).toString)).before args s = true) (hov : mn_AO ty s) (har : (Cond.arrayClass ty).before args s = true) (hK : va_K D vwCl tys s) (t0 t1 : Nat) {cR : ClassId} {kd : Nat} (ht0 : tys[t0]? = some (cR, ty)) (ht1 : tys[t1]? = some (ca kd, .array ty)) (hra : va_RA s cR ty → s.vm.findClass (FieldType.array ty).toString = some cR)
    (hS : va_S A H0 H locs) (hA : ∀ q, H0.size ≤ q → A q) {n w : Int} {N M : Nat} (hn : n = N ∧ n ≤ 2147483647) (hw : w = M ∧ w ≤ 2147483647) (b1 : N * 4 ≤ 536870912) (b2 : M * componentBytes ty ≤ 536870912) (b3 : M ≤ 536870912) {r0 : vp_A} (hr0 : vp_cell cR r0 = arrV cR M (fun _ => defaultValue ty))
    (h5 : fits ty (defaultValue ty) = true) (h6 : (defaultValue ty).isDefault = true) (hc : cells + (1 + N) ≤ R.cells) (hs : slots + (N + N * M) ≤ R.slots) (hdg : decode cc pc = .ok (.multianewarray index 2, 4))
    (kk : ∀ (x : Nat) (H1 : Heap) (locs1 : List Loc), x = H.size → va_at D vwCl (x, je_q ca N kd (fun j => if j < N then some (x + 1 + j) else none)) H1 → (∀ j : Nat, j < N → va_at D vwCl (x + 1 + j, .inl (cR, r0)) H1) → (∀ q : Nat, q < H.size → H1[q]? = H[q]?) → H1.size = H.size + 1 + N → va_S A H0 H1 locs1 → W p l e R s m args below meth c H1 locs1 (cells + 1 + N) (slots + N + N * M) Q (F0 m (pc + 4) ls (.ref x :: rest))) : W p l e R s m args below meth c H locs cells slots Q (F0 m pc ls (.int (kz w) :: .int (kz n) :: rest)) := by
  have lz : ∀ z : Int, 0 ≤ z → z ≤ 2147483647 → ¬ kz z < 0 := fun z g1 g2 q => by
    rw [← kz_0, kz_lt ⟨by omega, by omega, by omega, by omega⟩] at q
    omega
  refine jn_row hx hb hown hcl hov har hS hA (lz n (by omega) hn.2) (lz w (by omega) hw.2) (N := N) (M := M) (by rw [kz_clamp (by omega) hn.2]; omega) (by rw [kz_clamp (by omega) hw.2]; omega) b1 b2 b3 h5 h6 hc hs hdg (fun k r H1 locs1 f1 f2 e1 e2 o1 z1 hS1 => ?_)
  obtain rfl : k = ca kd := Option.some.inj (f1.symm.trans (hK.2 t1 _ ht1).2)
  obtain rfl : r = cR := Option.some.inj (f2.symm.trans (hra (hK.2 t0 _ ht0).2))
  refine kk H.size H1 locs1 rfl ?_ (fun j hj => ?_) o1 z1 hS1
  · show H1[H.size]? = some (vp_cell (ca kd) (N, .inr (.inr (.inr (.inr (fun j => if j < N then some (H.size + 1 + j) else none))))))
    rw [e1, vp_cell_q]
    congr 2
    funext j
    by_cases h : j < N
    · rw [if_pos h, if_pos h]
      rfl
    · rw [if_neg h, if_neg h]
      rfl
  · show H1[H.size + 1 + j]? = some (vp_cell r r0)
    rw [hr0]
    exact e2 j hj
/-- a final field written in a constructor -/
theorem iz_putF (hx : p.tables.exec = Jvm.exec) (hb : c.code = cc) {own ref C : String} {T : u_T} {N ci index : Nat} {Ts : List Cond} (hts : ∀ w ∈ Ts, w.before args s = true) (hin : ∀ w ∈ u_ws C T N, w ∈ Ts) (ty0 : Nat → FieldType) (hty : ∀ k, k < N → parseFieldDescriptor (T k).2.2.1 = some (ty0 k)) (hnm : ∀ a, a < N → ∀ b, b < N → a ≠ b → (T a).2.1 ≠ (T b).2.1) (hown : s.vm.findClass own = some m.cls) (hK : va_K D vwCl tys s) {fs : List Value} (hc : va_at D vwCl (a, .inr (ci, fs)) H) (hS : va_S A H0 H locs) (hA : A a) (hcl : vwCl[ci]? = some (C, T, N)) (k : Nat) (hk : k < N) (hlink : (Cond.fieldLink own index ref (T k).2.1 (T k).2.2.1).before args s = true) (hsame : ∀ x, s.fieldFound? (T k).1 (T k).2.1 (T k).2.2.1 = some x → s.fieldFound? ref (T k).2.1 (T k).2.2.1 = some x) (hfin : (T k).2.2.2 = true) (hin2 : meth.name = "<init>") (hdecl : (T k).1 = own) {ty : FieldType} {v : Value} (hpd : parseFieldDescriptor (T k).2.2.1 = some ty) (hn : narrow ty v = v) (hfit : fits ty v = true) (hl : k < fs.length) (hd : decode cc pc = .ok (.putfield index, 3))
    (kk : ∀ (H1 : Heap) (locs1 : List Loc), va_at D vwCl (a, .inr (ci, fs.set k v)) H1 → (∀ q : Nat, q ≠ a → H1[q]? = H[q]?) → va_S A H0 H1 locs1 → H1.size = H.size → W p l e R s m args below meth c H1 locs1 cells slots Q (F0 m (pc + 3) ls rest)) : W p l e R s m args below meth c H locs cells slots Q (F0 m pc ls (v :: .ref a :: rest)) := by
  have hap := va_apart (own := own) hts hin ty0 hty hnm hK hcl
  obtain ⟨r, h1, cell, q1, q2, q3, q4⟩ := hc
  obtain rfl : r = (C, T, N) := Option.some.inj (h1.symm.trans hcl)
  obtain ⟨hSl, hfc, kC, hkC, hkind⟩ := hK.1 ci _ hcl
  obtain ⟨cf, kf, fi, f, hi, hsl⟩ := hSl k hk
  have hlay := hts _ (hin _ (u_in_lay hk))
  unfold u_lay at hlay
  rw [if_pos hfin] at hlay
  have hcf : m.cls = cf := by
    obtain ⟨_, _, c', _, _, _, -, -, hf', -, -, -, hown2, -⟩ := Cond.laysFinal_spec hlay
    have e1 : c' = cf := by have := hi.symm.trans hf'; simp at this; exact this.1.symm
    rw [hdecl] at hown2
    rw [← e1]; exact Option.some.inj (hown.symm.trans hown2)
  refine W.putFinK hx hb hown hlink (hsame _ hi) (u_facts hfc hkC (u_lays hts hin hk) hi).1 hcf hin2 (by rw [q2]; exact u_fits hfc hkC hkind (Or.inr hlay) hi hpd hn hfit) q1 q3 (by rw [hsl]; exact k2_hasslot (q4 k hk)) rfl rfl hd fun H1 e1 e2 e3 => ?_
  rw [hsl] at e1 ⊢
  exact kk H1 _ ⟨_, hcl, t_OB.to (V := updV (vp_V fs) k v) ⟨_, e1, q2, q3, t_set q4 hap hk v⟩ (fun j _ => vp_updV_set hl v j)⟩ e3 (hS.put e2 e3 hA) e2
end JC
