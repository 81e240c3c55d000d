/-! ints as numbers: kz -/
def kz (z : Int) : Int32 := Int32.ofInt z
def ge1 (f : Nat → Int32) (z : Int) : Int := (f z.toNat).toInt
theorem kz_toInt {z : Int} (h : -2147483648 ≤ z) (h2 : z ≤ 2147483647) : (kz z).toInt = z := by
  unfold kz
  exact Int32.toInt_ofInt_of_le h (by omega)
theorem kz_of (x : Int32) : kz x.toInt = x := Int32.ofInt_toInt x
theorem kz_lo (x : Int32) : -2147483648 ≤ x.toInt := Int32.le_toInt x
theorem kz_hi (x : Int32) : x.toInt ≤ 2147483647 := by
  have := Int32.toInt_lt x
  omega
theorem kz_ex (x : Int32) : ∃ z : Int, -2147483648 ≤ z ∧ z ≤ 2147483647 ∧ x = kz z := ⟨x.toInt, kz_lo x, kz_hi x, (kz_of x).symm⟩
theorem kz_add (a b : Int) : kz a + kz b = kz (a + b) := (Int32.ofInt_add a b).symm
theorem kz_sub (a b : Int) : kz a - kz b = kz (a - b) := (Int32.ofInt_sub a b).symm
theorem kz_mul (a b : Int) : kz a * kz b = kz (a * b) := (Int32.ofInt_mul a b).symm
theorem kz_0 : kz 0 = 0 := by decide
theorem kz_1 : kz 1 = 1 := by decide
def rg2 (a b : Int) : Prop := -2147483648 ≤ a ∧ a ≤ 2147483647 ∧ -2147483648 ≤ b ∧ b ≤ 2147483647
theorem kz_lt {a b : Int} (h : rg2 a b) : kz a < kz b ↔ a < b := by
  rw [Int32.lt_iff_toInt_lt, kz_toInt h.1 h.2.1, kz_toInt h.2.2.1 h.2.2.2]
theorem kz_le {a b : Int} (h : rg2 a b) : kz a ≤ kz b ↔ a ≤ b := by
  rw [Int32.le_iff_toInt_le, kz_toInt h.1 h.2.1, kz_toInt h.2.2.1 h.2.2.2]
theorem kz_eq {a b : Int} (h : rg2 a b) : kz a = kz b ↔ a = b := by
  rw [← Int32.toInt_inj, kz_toInt h.1 h.2.1, kz_toInt h.2.2.1 h.2.2.2]
theorem kz_clamp {z : Int} (h : 0 ≤ z) (h2 : z ≤ 2147483647) : (kz z).toNatClampNeg = z.toNat := by
  show (kz z).toInt.toNat = z.toNat
  rw [kz_toInt (by omega) h2]
theorem kz_in {z : Int} {n : Nat} (h : 0 ≤ z) (h1 : z < n) (hn : n ≤ 2147483647) : vp_in (kz z) n := by
  unfold vp_in
  rw [kz_clamp h (by omega)]
  intro q
  rcases q with q | q
  · rw [← kz_0, kz_lt ⟨by omega, by omega, by omega, by omega⟩] at q
    omega
  · omega
theorem kz_ge1 (f : Nat → Int32) (z : Int) : f z.toNat = kz (ge1 f z) := (kz_of _).symm
section IZ
variable {p : Program} {l : Launch} {e : Env} {R : Room} {s : State} {m : MethodId} {args : Array Value} {below : List Frame} {meth : Method} {c : Code} {H : Heap} {locs : List Loc} {cells slots : Nat} {Q : State → Prop}
variable {cc : ByteArray} {pc : Nat} {ls : Array Slot} {rest : List Value} {D : va_G} {A : Nat → Prop} {a : Nat} {tys : List (ClassId × FieldType)} {H0 : Heap}
theorem iz_iadd (hx : p.tables.exec = Jvm.exec) (hb : c.code = cc) {x y : Int} (hd : decode cc pc = .ok (.iadd, 1)) (k : W p l e R s m args below meth c H locs cells slots Q (F0 m (pc + 1) ls (.int (kz (x + y)) :: rest))) : W p l e R s m args below meth c H locs cells slots Q (F0 m pc ls (.int (kz y) :: .int (kz x) :: rest)) :=
  lv_iadd hx hb hd (by rw [kz_add]; exact k)
theorem iz_isub (hx : p.tables.exec = Jvm.exec) (hb : c.code = cc) {x y : Int} (hd : decode cc pc = .ok (.isub, 1)) (k : W p l e R s m args below meth c H locs cells slots Q (F0 m (pc + 1) ls (.int (kz (x - y)) :: rest))) : W p l e R s m args below meth c H locs cells slots Q (F0 m pc ls (.int (kz y) :: .int (kz x) :: rest)) :=
  lv_isub hx hb hd (by rw [kz_sub]; exact k)
theorem iz_imul (hx : p.tables.exec = Jvm.exec) (hb : c.code = cc) {x y : Int} (hd : decode cc pc = .ok (.imul, 1)) (k : W p l e R s m args below meth c H locs cells slots Q (F0 m (pc + 1) ls (.int (kz (x * y)) :: rest))) : W p l e R s m args below meth c H locs cells slots Q (F0 m pc ls (.int (kz y) :: .int (kz x) :: rest)) :=
  lv_imul hx hb hd (by rw [kz_mul]; exact k)
/-- a number of which no more is known than that it is one -/
theorem iz_any {x : Int32} (k : ∀ z : Int, -2147483648 ≤ z → z ≤ 2147483647 → x = kz z → W p l e R s m args below meth c H locs cells slots Q (F0 m pc ls (.int (kz z) :: rest))) : W p l e R s m args below meth c H locs cells slots Q (F0 m pc ls (.int x :: rest)) := by
  obtain ⟨z, h1, h2, rfl⟩ := kz_ex x
  exact k z h1 h2 rfl
theorem i32_and {x y : Int32} (h : 0 ≤ y.toInt) : 0 ≤ (x &&& y).toInt ∧ (x &&& y).toInt ≤ y.toInt := by
  have e1 : (x &&& y).toInt = (x.toBitVec &&& y.toBitVec).toInt := by
    show (x &&& y).toBitVec.toInt = _
    rw [Int32.toBitVec_and]
  have e2 : y.toInt = y.toBitVec.toInt := rfl
  rw [e2, BitVec.toInt_eq_toNat_cond] at h
  rw [e1, e2]
  rw [BitVec.toInt_eq_toNat_cond, BitVec.toInt_eq_toNat_cond, BitVec.toNat_and]
  have h1 : x.toBitVec.toNat &&& y.toBitVec.toNat ≤ y.toBitVec.toNat := Nat.and_le_right
  have h2 : y.toBitVec.toNat < 4294967296 := y.toBitVec.isLt
  generalize x.toBitVec.toNat &&& y.toBitVec.toNat = u at h1 ⊢
  generalize y.toBitVec.toNat = v at h h1 h2 ⊢
  split at h
  · rw [if_pos (by omega), if_pos (by omega)]
    omega
  · omega
theorem iz_iand (hx : p.tables.exec = Jvm.exec) (hb : c.code = cc) {x : Int32} {y : Int} (hd : decode cc pc = .ok (.iand, 1)) (hy : 0 ≤ (kz y).toInt ∧ (kz y).toInt = y) (k : ∀ z : Int, 0 ≤ z → z ≤ y → x &&& kz y = kz z → W p l e R s m args below meth c H locs cells slots Q (F0 m (pc + 1) ls (.int (kz z) :: rest))) : W p l e R s m args below meth c H locs cells slots Q (F0 m pc ls (.int (kz y) :: .int x :: rest)) := by
  refine lv_iand hx hb hd ?_
  have h := i32_and (x := x) hy.1
  have h2 := k _ h.1 (by rw [hy.2] at h; exact h.2) (kz_of _).symm
  rw [kz_of] at h2
  exact h2
theorem iz_lt (hx : p.tables.exec = Jvm.exec) (hb : c.code = cc) {x y : Int} {off : Int} {tgt : Nat} (hd : decode cc pc = .ok (.if_icmp .lt off, 3)) (ht : (pc : Int) + off = (tgt : Int)) (hr : rg2 x y) (kt : x < y → W p l e R s m args below meth c H locs cells slots Q (F0 m tgt ls rest)) (kf : y ≤ x → W p l e R s m args below meth c H locs cells slots Q (F0 m (pc + 3) ls rest)) : W p l e R s m args below meth c H locs cells slots Q (F0 m pc ls (.int (kz y) :: .int (kz x) :: rest)) :=
  lv_icmp_lt hx hb hd ht (fun q => kt ((kz_lt hr).mp q)) (fun q => kf (by rw [kz_lt hr] at q; omega))
theorem iz_ge (hx : p.tables.exec = Jvm.exec) (hb : c.code = cc) {x y : Int} {off : Int} {tgt : Nat} (hd : decode cc pc = .ok (.if_icmp .ge off, 3)) (ht : (pc : Int) + off = (tgt : Int)) (hr : rg2 x y) (kt : y ≤ x → W p l e R s m args below meth c H locs cells slots Q (F0 m tgt ls rest)) (kf : x < y → W p l e R s m args below meth c H locs cells slots Q (F0 m (pc + 3) ls rest)) : W p l e R s m args below meth c H locs cells slots Q (F0 m pc ls (.int (kz y) :: .int (kz x) :: rest)) :=
  have hr2 : rg2 y x := ⟨hr.2.2.1, hr.2.2.2, hr.1, hr.2.1⟩
  lv_icmp_ge hx hb hd ht (fun q => kt ((kz_le hr2).mp q)) (fun q => kf (by rw [kz_le hr2] at q; omega))
theorem iz_gt (hx : p.tables.exec = Jvm.exec) (hb : c.code = cc) {x y : Int} {off : Int} {tgt : Nat} (hd : decode cc pc = .ok (.if_icmp .gt off, 3)) (ht : (pc : Int) + off = (tgt : Int)) (hr : rg2 x y) (kt : y < x → W p l e R s m args below meth c H locs cells slots Q (F0 m tgt ls rest)) (kf : x ≤ y → W p l e R s m args below meth c H locs cells slots Q (F0 m (pc + 3) ls rest)) : W p l e R s m args below meth c H locs cells slots Q (F0 m pc ls (.int (kz y) :: .int (kz x) :: rest)) :=
  have hr2 : rg2 y x := ⟨hr.2.2.1, hr.2.2.2, hr.1, hr.2.1⟩
  lv_icmp_gt hx hb hd ht (fun q => kt ((kz_lt hr2).mp q)) (fun q => kf (by rw [kz_lt hr2] at q; omega))
theorem iz_le (hx : p.tables.exec = Jvm.exec) (hb : c.code = cc) {x y : Int} {off : Int} {tgt : Nat} (hd : decode cc pc = .ok (.if_icmp .le off, 3)) (ht : (pc : Int) + off = (tgt : Int)) (hr : rg2 x y) (kt : x ≤ y → W p l e R s m args below meth c H locs cells slots Q (F0 m tgt ls rest)) (kf : y < x → W p l e R s m args below meth c H locs cells slots Q (F0 m (pc + 3) ls rest)) : W p l e R s m args below meth c H locs cells slots Q (F0 m pc ls (.int (kz y) :: .int (kz x) :: rest)) :=
  lv_icmp_le hx hb hd ht (fun q => kt ((kz_le hr).mp q)) (fun q => kf (by rw [kz_le hr] at q; omega))
theorem iz_eq (hx : p.tables.exec = Jvm.exec) (hb : c.code = cc) {x y : Int} {off : Int} {tgt : Nat} (hd : decode cc pc = .ok (.if_icmp .eq off, 3)) (ht : (pc : Int) + off = (tgt : Int)) (hr : rg2 x y) (kt : x = y → W p l e R s m args below meth c H locs cells slots Q (F0 m tgt ls rest)) (kf : ¬ x = y → W p l e R s m args below meth c H locs cells slots Q (F0 m (pc + 3) ls rest)) : W p l e R s m args below meth c H locs cells slots Q (F0 m pc ls (.int (kz y) :: .int (kz x) :: rest)) :=
  lv_icmp_eq hx hb hd ht (fun q => kt ((kz_eq hr).mp q)) (fun q => kf (fun h => q ((kz_eq hr).mpr h)))
theorem iz_ne (hx : p.tables.exec = Jvm.exec) (hb : c.code = cc) {x y : Int} {off : Int} {tgt : Nat} (hd : decode cc pc = .ok (.if_icmp .ne off, 3)) (ht : (pc : Int) + off = (tgt : Int)) (hr : rg2 x y) (kt : ¬ x = y → W p l e R s m args below meth c H locs cells slots Q (F0 m tgt ls rest)) (kf : x = y → W p l e R s m args below meth c H locs cells slots Q (F0 m (pc + 3) ls rest)) : W p l e R s m args below meth c H locs cells slots Q (F0 m pc ls (.int (kz y) :: .int (kz x) :: rest)) :=
  lv_icmp_ne hx hb hd ht (fun q => kt (fun h => q ((kz_eq hr).mpr h))) (fun q => kf ((kz_eq hr).mp q))
theorem iz_ltz (hx : p.tables.exec = Jvm.exec) (hb : c.code = cc) {x : Int} {off : Int} {tgt : Nat} (hd : decode cc pc = .ok (.ifCond .lt off, 3)) (ht : (pc : Int) + off = (tgt : Int)) (hr : rg2 x 0) (kt : x < 0 → W p l e R s m args below meth c H locs cells slots Q (F0 m tgt ls rest)) (kf : 0 ≤ x → W p l e R s m args below meth c H locs cells slots Q (F0 m (pc + 3) ls rest)) : W p l e R s m args below meth c H locs cells slots Q (F0 m pc ls (.int (kz x) :: rest)) :=
  lv_if_lt hx hb hd ht (fun q => kt (by rw [← kz_0, kz_lt hr] at q; exact q)) (fun q => kf (by rw [← kz_0, kz_lt hr] at q; omega))
theorem iz_gez (hx : p.tables.exec = Jvm.exec) (hb : c.code = cc) {x : Int} {off : Int} {tgt : Nat} (hd : decode cc pc = .ok (.ifCond .ge off, 3)) (ht : (pc : Int) + off = (tgt : Int)) (hr : rg2 x 0) (kt : 0 ≤ x → W p l e R s m args below meth c H locs cells slots Q (F0 m tgt ls rest)) (kf : x < 0 → W p l e R s m args below meth c H locs cells slots Q (F0 m (pc + 3) ls rest)) : W p l e R s m args below meth c H locs cells slots Q (F0 m pc ls (.int (kz x) :: rest)) :=
  have hr2 : rg2 0 x := ⟨hr.2.2.1, hr.2.2.2, hr.1, hr.2.1⟩
  lv_if_ge hx hb hd ht (fun q => kt (by rw [← kz_0, kz_le hr2] at q; exact q)) (fun q => kf (by rw [← kz_0, kz_le hr2] at q; omega))
theorem iz_gtz (hx : p.tables.exec = Jvm.exec) (hb : c.code = cc) {x : Int} {off : Int} {tgt : Nat} (hd : decode cc pc = .ok (.ifCond .gt off, 3)) (ht : (pc : Int) + off = (tgt : Int)) (hr : rg2 x 0) (kt : 0 < x → W p l e R s m args below meth c H locs cells slots Q (F0 m tgt ls rest)) (kf : x ≤ 0 → W p l e R s m args below meth c H locs cells slots Q (F0 m (pc + 3) ls rest)) : W p l e R s m args below meth c H locs cells slots Q (F0 m pc ls (.int (kz x) :: rest)) :=
  have hr2 : rg2 0 x := ⟨hr.2.2.1, hr.2.2.2, hr.1, hr.2.1⟩
  lv_if_gt hx hb hd ht (fun q => kt (by rw [← kz_0, kz_lt hr2] at q; exact q)) (fun q => kf (by rw [← kz_0, kz_lt hr2] at q; omega))
theorem iz_lez (hx : p.tables.exec = Jvm.exec) (hb : c.code = cc) {x : Int} {off : Int} {tgt : Nat} (hd : decode cc pc = .ok (.ifCond .le off, 3)) (ht : (pc : Int) + off = (tgt : Int)) (hr : rg2 x 0) (kt : x ≤ 0 → W p l e R s m args below meth c H locs cells slots Q (F0 m tgt ls rest)) (kf : 0 < x → W p l e R s m args below meth c H locs cells slots Q (F0 m (pc + 3) ls rest)) : W p l e R s m args below meth c H locs cells slots Q (F0 m pc ls (.int (kz x) :: rest)) :=
  lv_if_le hx hb hd ht (fun q => kt (by rw [← kz_0, kz_le hr] at q; exact q)) (fun q => kf (by rw [← kz_0, kz_le hr] at q; omega))
theorem iz_eqz (hx : p.tables.exec = Jvm.exec) (hb : c.code = cc) {x : Int} {off : Int} {tgt : Nat} (hd : decode cc pc = .ok (.ifCond .eq off, 3)) (ht : (pc : Int) + off = (tgt : Int)) (hr : rg2 x 0) (kt : x = 0 → W p l e R s m args below meth c H locs cells slots Q (F0 m tgt ls rest)) (kf : ¬ x = 0 → W p l e R s m args below meth c H locs cells slots Q (F0 m (pc + 3) ls rest)) : W p l e R s m args below meth c H locs cells slots Q (F0 m pc ls (.int (kz x) :: rest)) :=
  lv_if_eq hx hb hd ht (fun q => kt (by rw [← kz_0, kz_eq hr] at q; exact q)) (fun q => kf (fun h => q (by rw [← kz_0, kz_eq hr]; exact h)))
theorem iz_nez (hx : p.tables.exec = Jvm.exec) (hb : c.code = cc) {x : Int} {off : Int} {tgt : Nat} (hd : decode cc pc = .ok (.ifCond .ne off, 3)) (ht : (pc : Int) + off = (tgt : Int)) (hr : rg2 x 0) (kt : ¬ x = 0 → W p l e R s m args below meth c H locs cells slots Q (F0 m tgt ls rest)) (kf : x = 0 → W p l e R s m args below meth c H locs cells slots Q (F0 m (pc + 3) ls rest)) : W p l e R s m args below meth c H locs cells slots Q (F0 m pc ls (.int (kz x) :: rest)) :=
  lv_if_ne hx hb hd ht (fun q => kt (fun h => q (by rw [← kz_0, kz_eq hr]; exact h))) (fun q => kf (by rw [← kz_0, kz_eq hr] at q; exact q))
theorem at_P {x : va_E} (h : va_at D vwCl (a, x) H) : va_P D vwCl [(a, x)] H := by
  intro k q hq
  have hz : k < 1 := (List.getElem?_eq_some_iff.mp hq).1
  obtain rfl : k = 0 := by omega
  cases hq
  exact h
/-- a field read -/
theorem iz_get (hx : p.tables.exec = Jvm.exec) (hb : c.code = cc) {own ref C : String} {T : u_T} {N ci index : Nat} {Ts : List Cond} (hts : ∀ w ∈ Ts, w.before args s = true) (hin : ∀ w ∈ u_ws C T N, w ∈ Ts) (hown : s.vm.findClass own = some m.cls) (hK : va_K D vwCl tys s) {fs : List Value} (hc : va_at D vwCl (a, .inr (ci, fs)) H) (hcl : vwCl[ci]? = some (C, T, N)) (k : Nat) (hk : k < N) (hlink : (Cond.fieldLink own index ref (T k).2.1 (T k).2.2.1).before args s = true) (hsame : ∀ x, s.fieldFound? (T k).1 (T k).2.1 (T k).2.2.1 = some x → s.fieldFound? ref (T k).2.1 (T k).2.2.1 = some x) {v : Value} (hv : fs[k]? = some v) (hd : decode cc pc = .ok (.getfield index, 3))
    (kk : W p l e R s m args below meth c H locs cells slots Q (F0 m (pc + 3) ls (v :: rest))) : W p l e R s m args below meth c H locs cells slots Q (F0 m pc ls (.ref a :: rest)) :=
  va_get (D := D) (ci := ci) (C := C) (T := T) (N := N) hx hb hts hin hown hK (at_P hc) 0 rfl hcl k hk hlink hsame hv hd kk
/-- a field written: what is elsewhere stays -/
theorem iz_put (hx : p.tables.exec = Jvm.exec) (hb : c.code = cc) {own ref C : String} {T : u_T} {N ci index : Nat} {Ts : List Cond} (hts : ∀ w ∈ Ts, w.before args s = true) (hin : ∀ w ∈ u_ws C T N, w ∈ Ts) (ty0 : Nat → FieldType) (hty : ∀ k, k < N → parseFieldDescriptor (T k).2.2.1 = some (ty0 k)) (hnm : ∀ a, a < N → ∀ b, b < N → a ≠ b → (T a).2.1 ≠ (T b).2.1) (hown : s.vm.findClass own = some m.cls) (hK : va_K D vwCl tys s) {fs : List Value} (hc : va_at D vwCl (a, .inr (ci, fs)) H) (hS : va_S A H0 H locs) (hA : A a) (hcl : vwCl[ci]? = some (C, T, N)) (k : Nat) (hk : k < N) (hlink : (Cond.fieldLink own index ref (T k).2.1 (T k).2.2.1).before args s = true) (hsame : ∀ x, s.fieldFound? (T k).1 (T k).2.1 (T k).2.2.1 = some x → s.fieldFound? ref (T k).2.1 (T k).2.2.1 = some x) (hfin : (T k).2.2.2 = false) {ty : FieldType} {v : Value} (hpd : parseFieldDescriptor (T k).2.2.1 = some ty) (hn : narrow ty v = v) (hfit : fits ty v = true) (hl : k < fs.length) (hd : decode cc pc = .ok (.putfield index, 3))
    (kk : ∀ (H1 : Heap) (locs1 : List Loc), va_at D vwCl (a, .inr (ci, fs.set k v)) H1 → (∀ q : Nat, q ≠ a → H1[q]? = H[q]?) → va_S A H0 H1 locs1 → W p l e R s m args below meth c H1 locs1 cells slots Q (F0 m (pc + 3) ls rest)) : W p l e R s m args below meth c H locs cells slots Q (F0 m pc ls (v :: .ref a :: rest)) := by
  have hap := va_apart (own := own) hts hin ty0 hty hnm hK hcl
  obtain ⟨r, h1, cell, q1, q2, q3, q4⟩ := hc
  obtain rfl : r = (C, T, N) := Option.some.inj (h1.symm.trans hcl)
  obtain ⟨hSl, hfc, kC, hkC, hkind⟩ := hK.1 ci _ hcl
  obtain ⟨cf, kf, fi, f, hi, hsl⟩ := hSl k hk
  have hlay := hts _ (hin _ (u_in_lay hk))
  unfold u_lay at hlay
  rw [if_neg (by rw [hfin]; decide)] at hlay
  refine W.putK hx hb (f := f) ⟨hown, hlink, ⟨_, _, _, hsame _ hi⟩, (u_facts hfc hkC (u_lays hts hin hk) hi).1⟩ (by rw [q2]; exact u_store hfc hkC hkind hlay hi hpd hn hfit) q1 q3 (by rw [hsl]; exact k2_hasslot (q4 k hk)) rfl rfl hd fun H1 e1 e2 e3 => ?_
  rw [hsl] at e1 ⊢
  exact kk H1 _ ⟨_, hcl, t_OB.to (V := updV (vp_V fs) k v) ⟨_, e1, q2, q3, t_set q4 hap hk v⟩ (fun j _ => vp_updV_set hl v j)⟩ e3 (hS.put e2 e3 hA)
theorem iz_iald (hx : p.tables.exec = Jvm.exec) (hb : c.code = cc) (hK : va_K D vwCl tys s) (t0 : Nat) {cA : ClassId} {n : Nat} {f : Nat → Int32} (hc : va_at D vwCl (a, .inl (cA, n, .inl f)) H) (ht : tys[t0]? = some (cA, .int)) {z : Int} (h0 : 0 ≤ z ∧ z < n) (hn : n ≤ 2147483647) (hd : decode cc pc = .ok (.iaload, 1))
    (kk : W p l e R s m args below meth c H locs cells slots Q (F0 m (pc + 1) ls (.int (kz (ge1 f z)) :: rest))) : W p l e R s m args below meth c H locs cells slots Q (F0 m pc ls (.int (kz z) :: .ref a :: rest)) :=
  va_iald hx hb hK (at_P hc) 0 t0 rfl ht (kz_in h0.1 h0.2 hn) hd (by rw [kz_clamp h0.1 (by omega), kz_ge1 f z]; exact kk)
theorem iz_bald (hx : p.tables.exec = Jvm.exec) (hb : c.code = cc) (hK : va_K D vwCl tys s) (t0 : Nat) {cA : ClassId} {n : Nat} {f : Nat → Int32} (hc : va_at D vwCl (a, .inl (cA, n, .inl f)) H) (ht : tys[t0]? = some (cA, .byte)) {z : Int} (h0 : 0 ≤ z ∧ z < n) (hn : n ≤ 2147483647) (hd : decode cc pc = .ok (.baload, 1))
    (kk : W p l e R s m args below meth c H locs cells slots Q (F0 m (pc + 1) ls (.int (kz (ge1 f z)) :: rest))) : W p l e R s m args below meth c H locs cells slots Q (F0 m pc ls (.int (kz z) :: .ref a :: rest)) :=
  va_bald hx hb hK (at_P hc) 0 t0 rfl ht (kz_in h0.1 h0.2 hn) hd (by rw [kz_clamp h0.1 (by omega), kz_ge1 f z]; exact kk)
theorem iz_zald (hx : p.tables.exec = Jvm.exec) (hb : c.code = cc) (hK : va_K D vwCl tys s) (t0 : Nat) {cA : ClassId} {n : Nat} {f : Nat → Int32} (hc : va_at D vwCl (a, .inl (cA, n, .inl f)) H) (ht : tys[t0]? = some (cA, .boolean)) {z : Int} (h0 : 0 ≤ z ∧ z < n) (hn : n ≤ 2147483647) (hd : decode cc pc = .ok (.baload, 1))
    (kk : W p l e R s m args below meth c H locs cells slots Q (F0 m (pc + 1) ls (.int (kz (ge1 f z)) :: rest))) : W p l e R s m args below meth c H locs cells slots Q (F0 m pc ls (.int (kz z) :: .ref a :: rest)) :=
  va_zald hx hb hK (at_P hc) 0 t0 rfl ht (kz_in h0.1 h0.2 hn) hd (by rw [kz_clamp h0.1 (by omega), kz_ge1 f z]; exact kk)
theorem iz_lald (hx : p.tables.exec = Jvm.exec) (hb : c.code = cc) (hK : va_K D vwCl tys s) (t0 : Nat) {cA : ClassId} {n : Nat} {f : Nat → Int64} (hc : va_at D vwCl (a, .inl (cA, n, .inr (.inl f))) H) (ht : tys[t0]? = some (cA, .long)) {z : Int} (h0 : 0 ≤ z ∧ z < n) (hn : n ≤ 2147483647) (hd : decode cc pc = .ok (.laload, 1))
    (kk : W p l e R s m args below meth c H locs cells slots Q (F0 m (pc + 1) ls (.long (f z.toNat) :: rest))) : W p l e R s m args below meth c H locs cells slots Q (F0 m pc ls (.int (kz z) :: .ref a :: rest)) :=
  va_lald hx hb hK (at_P hc) 0 t0 rfl ht (kz_in h0.1 h0.2 hn) hd (by rw [kz_clamp h0.1 (by omega)]; exact kk)
theorem iz_iast (hx : p.tables.exec = Jvm.exec) (hb : c.code = cc) (hK : va_K D vwCl tys s) (t0 : Nat) {cA : ClassId} {n : Nat} {f : Nat → Int32} (hc : va_at D vwCl (a, .inl (cA, n, .inl f)) H) (hS : va_S A H0 H locs) (hA : A a) (ht : tys[t0]? = some (cA, .int)) {z x : Int} (h0 : 0 ≤ z ∧ z < n) (hn : n ≤ 2147483647) (hd : decode cc pc = .ok (.iastore, 1))
    (kk : ∀ (H1 : Heap) (locs1 : List Loc), va_at D vwCl (a, .inl (cA, n, .inl (upd f z.toNat (kz x)))) H1 → (∀ q : Nat, q ≠ a → H1[q]? = H[q]?) → va_S A H0 H1 locs1 → W p l e R s m args below meth c H1 locs1 cells slots Q (F0 m (pc + 1) ls rest)) : W p l e R s m args below meth c H locs cells slots Q (F0 m pc ls (.int (kz x) :: .int (kz z) :: .ref a :: rest)) := by
  have hin := kz_in h0.1 h0.2 hn
  refine W.iast hx hb hc ((hK.2 t0 _ ht).1 n (fun j => .int (f j))) (fun q => by cases q) (by show ¬ (kz z < 0 ∨ (arrV _ _ _).slots.size ≤ _); rw [arrV_size]; exact hin) rfl rfl hd fun H1 e1 e2 e3 => ?_
  refine kk H1 _ ?_ e3 (hS.put e2 e3 hA)
  show H1[a]? = some (vp_cell _ _)
  rw [e1, vp_cell_i, vp_cell_i, arrV_store, kz_clamp h0.1 (by omega)]
  congr 2
  funext q
  by_cases hq : q = z.toNat <;> simp [updV, upd, hq]
theorem iz_bast (hx : p.tables.exec = Jvm.exec) (hb : c.code = cc) (hK : va_K D vwCl tys s) (t0 : Nat) {cA : ClassId} {n : Nat} {f : Nat → Int32} (hc : va_at D vwCl (a, .inl (cA, n, .inl f)) H) (hS : va_S A H0 H locs) (hA : A a) (ht : tys[t0]? = some (cA, .byte)) {z : Int} {x : Int32} (h0 : 0 ≤ z ∧ z < n) (hn : n ≤ 2147483647) (hd : decode cc pc = .ok (.bastore, 1))
    (kk : ∀ (H1 : Heap) (locs1 : List Loc), va_at D vwCl (a, .inl (cA, n, .inl (upd f z.toNat (vp_nar .byte x)))) H1 → (∀ q : Nat, q ≠ a → H1[q]? = H[q]?) → va_S A H0 H1 locs1 → W p l e R s m args below meth c H1 locs1 cells slots Q (F0 m (pc + 1) ls rest)) : W p l e R s m args below meth c H locs cells slots Q (F0 m pc ls (.int x :: .int (kz z) :: .ref a :: rest)) := by
  have hin := kz_in h0.1 h0.2 hn
  refine W.bast hx hb hc ((hK.2 t0 _ ht).1 n (fun j => .int (f j))) (fun q => by cases q) (by show ¬ (kz z < 0 ∨ (arrV _ _ _).slots.size ≤ _); rw [arrV_size]; exact hin) rfl rfl hd fun H1 e1 e2 e3 => ?_
  refine kk H1 _ ?_ e3 (hS.put e2 e3 hA)
  show H1[a]? = some (vp_cell _ _)
  rw [e1, vp_cell_i, vp_cell_i, arrV_store, kz_clamp h0.1 (by omega)]
  congr 2
  funext q
  by_cases hq : q = z.toNat <;> simp [updV, upd, hq, vp_nar, narrow]
theorem iz_zast (hx : p.tables.exec = Jvm.exec) (hb : c.code = cc) (hK : va_K D vwCl tys s) (t0 : Nat) {cA : ClassId} {n : Nat} {f : Nat → Int32} (hc : va_at D vwCl (a, .inl (cA, n, .inl f)) H) (hS : va_S A H0 H locs) (hA : A a) (ht : tys[t0]? = some (cA, .boolean)) {z : Int} {x : Int32} (h0 : 0 ≤ z ∧ z < n) (hn : n ≤ 2147483647) (hd : decode cc pc = .ok (.bastore, 1))
    (kk : ∀ (H1 : Heap) (locs1 : List Loc), va_at D vwCl (a, .inl (cA, n, .inl (upd f z.toNat (vp_nar .boolean x)))) H1 → (∀ q : Nat, q ≠ a → H1[q]? = H[q]?) → va_S A H0 H1 locs1 → W p l e R s m args below meth c H1 locs1 cells slots Q (F0 m (pc + 1) ls rest)) : W p l e R s m args below meth c H locs cells slots Q (F0 m pc ls (.int x :: .int (kz z) :: .ref a :: rest)) := by
  have hin := kz_in h0.1 h0.2 hn
  refine W.zast hx hb hc ((hK.2 t0 _ ht).1 n (fun j => .int (f j))) (fun q => by cases q) (by show ¬ (kz z < 0 ∨ (arrV _ _ _).slots.size ≤ _); rw [arrV_size]; exact hin) rfl rfl hd fun H1 e1 e2 e3 => ?_
  refine kk H1 _ ?_ e3 (hS.put e2 e3 hA)
  show H1[a]? = some (vp_cell _ _)
  rw [e1, vp_cell_i, vp_cell_i, arrV_store, kz_clamp h0.1 (by omega)]
  congr 2
  funext q
  by_cases hq : q = z.toNat <;> simp [updV, upd, hq, vp_nar, narrow]
theorem iz_last (hx : p.tables.exec = Jvm.exec) (hb : c.code = cc) (hK : va_K D vwCl tys s) (t0 : Nat) {cA : ClassId} {n : Nat} {f : Nat → Int64} (hc : va_at D vwCl (a, .inl (cA, n, .inr (.inl f))) H) (hS : va_S A H0 H locs) (hA : A a) (ht : tys[t0]? = some (cA, .long)) {z : Int} {x : Int64} (h0 : 0 ≤ z ∧ z < n) (hn : n ≤ 2147483647) (hd : decode cc pc = .ok (.lastore, 1))
    (kk : ∀ (H1 : Heap) (locs1 : List Loc), va_at D vwCl (a, .inl (cA, n, .inr (.inl (vp_updL f z.toNat x)))) H1 → (∀ q : Nat, q ≠ a → H1[q]? = H[q]?) → va_S A H0 H1 locs1 → W p l e R s m args below meth c H1 locs1 cells slots Q (F0 m (pc + 1) ls rest)) : W p l e R s m args below meth c H locs cells slots Q (F0 m pc ls (.long x :: .int (kz z) :: .ref a :: rest)) := by
  have hin := kz_in h0.1 h0.2 hn
  refine W.last hx hb hc ((hK.2 t0 _ ht).1 n (fun j => .long (f j))) (fun q => by cases q) (by show ¬ (kz z < 0 ∨ (arrV _ _ _).slots.size ≤ _); rw [arrV_size]; exact hin) rfl rfl hd fun H1 e1 e2 e3 => ?_
  refine kk H1 _ ?_ e3 (hS.put e2 e3 hA)
  show H1[a]? = some (vp_cell _ _)
  rw [e1, vp_cell_l, vp_cell_l, arrV_store, kz_clamp h0.1 (by omega)]
  congr 2
  funext q
  by_cases hq : q = z.toNat <;> simp [updV, vp_updL, hq]
end IZ
