/-! new T[n][w], a row of my own: the machine's 'make' of two dimensions, what it leaves of the heap that was there, and the walk's row. Nothing is said of the new cells but that they are new. -/
/-- an array whose places are all alike -/
def mn_A (k : ClassId) (n : Nat) (v : Value) : Cell := { cls := k, slots := Array.replicate n v, vm := .none }
/-- the outer array with i places laid -/
def mn_O (k : ClassId) (n a : Nat) : Nat → Cell
  | 0 => mn_A k n .null
  | i + 1 => (mn_O k n a i).setSlot i (.ref (a + 1 + i))
/-- the state with i rows laid -/
def mn_T (U : State) (k r : ClassId) (n w : Nat) (v : Value) : Nat → State
  | 0 => U.pushCell (mn_A k n .null)
  | i + 1 => ((mn_T U k r n w v i).pushCell (mn_A r w v)).setCell U.heap.size (mn_O k n U.heap.size (i + 1))
theorem mn_A_sz (k : ClassId) (n : Nat) (v : Value) : (mn_A k n v).slots.size = n := by simp [mn_A]
theorem mn_O_ok (k : ClassId) (n a : Nat) (i : Nat) : (mn_O k n a i).cls = k ∧ (mn_O k n a i).vm = .none ∧ (mn_O k n a i).slots.size = n := by
  induction i with
  | zero => exact ⟨rfl, rfl, mn_A_sz k n .null⟩
  | succ i ih => exact ⟨by simp [mn_O, Cell.setSlot, ih.1], by simp [mn_O, Cell.setSlot, ih.2.1], by simp [mn_O, Cell.setSlot, ih.2.2]⟩
/-- size, the outer array's cell, the tables, the places used -/
theorem mn_T_ok (U : State) (k r : ClassId) (n w : Nat) (v : Value) (i : Nat) : (mn_T U k r n w v i).heap.size = U.heap.size + 1 + i ∧ (mn_T U k r n w v i).heap[U.heap.size]? = some (mn_O k n U.heap.size i) ∧ (mn_T U k r n w v i).vm = U.vm ∧ (mn_T U k r n w v i).slotsUsed = U.slotsUsed + n + i * w := by
  induction i with
  | zero => exact ⟨by simp [mn_T], by simp [mn_T, mn_O], rfl, by simp [mn_T, mn_A]⟩
  | succ i ih =>
    obtain ⟨h1, h2, h3, h4⟩ := ih
    have hlt : U.heap.size < (mn_T U k r n w v i).heap.size := by rw [h1]; omega
    have hc : ((mn_T U k r n w v i).pushCell (mn_A r w v)).heap[U.heap.size]? = some (mn_O k n U.heap.size i) := (State.heap_pushCell_of_lt _ _ hlt).trans h2
    refine ⟨by simp [mn_T, State.setCell, h1]; omega, State.heap_setCell_self hc, by simp [mn_T, h3], ?_⟩
    simp [mn_T, mn_A, h4, Nat.succ_mul]
    omega
/-- what was there stays -/
theorem mn_T_old (U : State) (k r : ClassId) (n w : Nat) (v : Value) {x : Nat} (hx : x < U.heap.size) (i : Nat) : (mn_T U k r n w v i).heap[x]? = U.heap[x]? := by
  induction i with
  | zero => exact State.heap_pushCell_of_lt _ _ hx
  | succ i ih =>
    have h1 := (mn_T_ok U k r n w v i).1
    have hlt : x < (mn_T U k r n w v i).heap.size := by rw [h1]; omega
    refine Eq.trans ?_ ih
    refine Eq.trans (State.heap_setCell_other (Nat.ne_of_gt hx)) ?_
    exact State.heap_pushCell_of_lt _ _ hlt
theorem mn_T_top (U : State) (g : JFrame) (k r : ClassId) (n w : Nat) (v : Value) (i : Nat) : mn_T (U.setTop g) k r n w v i = (mn_T U k r n w v i).setTop g := by
  induction i with
  | zero => rfl
  | succ i ih => simp only [mn_T, ih, State.heap_setTop, State.pushCell_setTop, State.setCell_setTop]
section MNW
variable {E : CtlPost} {e : Env} {d : Bool} {acts : List Action} {U : State}
/-- one array of defaults -/
theorem mn_one {k k2 : ClassId} {K : Class} {ty : FieldType} {n : Nat} {v : Value} (hk : U.vm.classes[k]? = some K) (hK : K.kind = .array k2 ty) (h1 : ¬ n > e.platform.arrayLengthLimit) (h2 : ¬ n * componentBytes ty > e.platform.maxHeapBytes) (h3 : fits ty v = true) (h4 : v.isDefault = true)
    (h5 : U.heap.size < e.platform.maxCells) (h6 : U.slotsUsed + n ≤ e.platform.maxSlots) {Q : Addr → Pre} (hq : Q U.heap.size d acts (U.pushCell (mn_A k n v))) : wp (Jvm.newArray k n v) Q E e d acts U := by
  have hall : ∀ (i : Nat) (x : Value), (Array.replicate n v)[i]? = some x → U.fitsSlot k .none i x = true := fun i x hx => by
    rw [Array.getElem?_replicate] at hx
    split at hx
    · cases hx
      simp [State.fitsSlot, State.slotType?, hk, hK, h3]
    · cases hx
  have hal : allocActs (Array.replicate n v) U.heap.size acts = acts := by
    unfold allocActs
    rw [if_pos]
    rw [Array.all_replicate]
    split <;> simp [h4]
  simp only [Jvm.newArray, Jvm.arrayFits, wp_bind', W.ask, W.ite, h1, if_false, wp_pure', W.theClass, hk, hK, h2, W.alloc, W.stop, Option.some.injEq, exists_eq_left', Array.size_replicate, hal]
  rw [if_neg (by omega)]
  exact ⟨h5, h6, hall, hq⟩
theorem mn_ref {ty : FieldType} {x : Value} (hx : x = .null ∨ ∃ a, x = .ref a) : fits (.array ty) x = true := by
  rcases hx with rfl | ⟨a, rfl⟩ <;> rfl
/-- the machine's 'make' of two dimensions -/
theorem mn_two {k r r2 : ClassId} {K Kr : Class} {ty : FieldType} {n w : Int32} (hk : U.vm.classes[k]? = some K) (hK : K.kind = .array r (.array ty)) (hr : U.vm.classes[r]? = some Kr) (hR : Kr.kind = .array r2 ty) (hn : ¬ n < 0) (hw : ¬ w < 0)
    (h1 : ¬ n.toNatClampNeg > e.platform.arrayLengthLimit) (h2 : ¬ n.toNatClampNeg * componentBytes (.array ty) > e.platform.maxHeapBytes) (h3 : ¬ w.toNatClampNeg > e.platform.arrayLengthLimit) (h4 : ¬ w.toNatClampNeg * componentBytes ty > e.platform.maxHeapBytes)
    (h5 : fits ty (defaultValue ty) = true) (h6 : (defaultValue ty).isDefault = true) (h7 : U.heap.size + 1 + n.toNatClampNeg ≤ e.platform.maxCells) (h8 : U.slotsUsed + n.toNatClampNeg + n.toNatClampNeg * w.toNatClampNeg ≤ e.platform.maxSlots)
    {Q : Addr → Pre} (hq : ∀ d2 acts2, Q U.heap.size d2 acts2 (mn_T U k r n.toNatClampNeg w.toNatClampNeg (defaultValue ty) n.toNatClampNeg)) : wp (multianewarray.make k [n, w]) Q E e d acts U := by
  generalize hNe : n.toNatClampNeg = N at *
  generalize hWe : w.toNatClampNeg = M at *
  have hno : ([w].find? (· < 0)) = none := by simp [hw]
  rw [multianewarray.make]
  simp only [wp_bind', W.ite, hn, if_false, wp_pure', W.theClass, hk, hK, Option.some.injEq, exists_eq_left', hNe]
  refine mn_one hk hK h1 h2 (mn_ref (Or.inl rfl)) rfl (by omega) (by have := Nat.zero_le (N * M); omega) ?_
  simp only [hno]
  rw [ite_self, wp_bind', Std.Legacy.Range.forIn_eq_forIn_range']
  have hsz : ([:N] : Std.Legacy.Range).size = N := by simp [Std.Legacy.Range.size]
  rw [hsz]
  show wp (forIn (List.range' 0 N 1) PUnit.unit _) _ E e d acts _
  refine wp_forIn_inv (fun todo V => ∃ i, i ≤ N ∧ todo = List.range' i (N - i) ∧ V = mn_T U k r N M (defaultValue ty) i) _ _ ⟨0, Nat.zero_le _, rfl, rfl⟩ ?_ ?_
  · rintro j todo V d2 acts2 Q2 ⟨i, hi, hl, rfl⟩ go
    have hlt : i < N := by
      rcases Nat.lt_or_ge i N with q | q
      · exact q
      · rw [show N - i = 0 by omega] at hl
        cases hl
    rw [show N - i = (N - (i + 1)) + 1 by omega, List.range'_succ] at hl
    obtain ⟨ej, et⟩ := List.cons.inj hl
    subst ej
    obtain ⟨f1, f2, f3, f4⟩ := mn_T_ok U k r N M (defaultValue ty) j
    obtain ⟨o1, o2, o3⟩ := mn_O_ok k N U.heap.size j
    have hm : j * M + M ≤ N * M := by
      have := Nat.mul_le_mul_right M (show j + 1 ≤ N from hlt)
      rw [Nat.succ_mul] at this
      exact this
    have hin : U.heap.size < (mn_T U k r N M (defaultValue ty) j).heap.size := by rw [f1]; omega
    simp only [wp_bind']
    rw [multianewarray.make]
    simp only [wp_bind', W.ite, hw, if_false, wp_pure', W.theClass, f3, hr, hR, Option.some.injEq, exists_eq_left', hWe]
    refine mn_one (by rw [f3]; exact hr) hR h3 h4 h5 h6 (by rw [f1]; omega) (by rw [f4]; omega) ?_
    simp only [wp_bind', W.writeLoc, wp_pure']
    refine ⟨mn_O k N U.heap.size j, (State.heap_pushCell_of_lt _ _ hin).trans f2, by rw [o2]; simp, by rw [o3]; exact hlt, ?_, go _ _ _ ⟨j + 1, hlt, et, ?_⟩⟩
    · rw [o1, o2]
      simp [State.fitsSlot, State.slotType?, f3, hk, hK, mn_ref (Or.inr ⟨_, rfl⟩)]
    · rw [f1]
      rfl
  · rintro V d2 acts2 ⟨i, hi, hl, rfl⟩
    have he : i = N := by
      rcases Nat.lt_or_ge i N with q | q
      · rw [show N - i = (N - (i + 1)) + 1 by omega, List.range'_succ] at hl
        cases hl
      · omega
    subst he
    simp only [wp_pure']
    exact hq _ _
end MNW
section MNS
variable {p : Program} {l : Launch} {e : Env} {R : Room} {s : State} {m : MethodId} {args : Array Value} {below : List Frame} {meth : Method} {c : Code} {T : State} {locs : List Loc} {cells slots : Nat}
theorem mn_stand (X : Stand p l e R s m args below meth c T locs cells slots) (k r : ClassId) (n w : Nat) (v : Value) (i : Nat) : Stand p l e R s m args below meth c (mn_T T k r n w v i) (locs ++ (List.range i).map (fun j => (⟨T.heap.size, j⟩ : Loc))) (cells + 1 + i) (slots + n + i * w) := by
  induction i with
  | zero =>
    have h := X.pushed (mn_A k n .null)
    rw [mn_A_sz] at h
    simpa [mn_T] using h
  | succ i ih =>
    obtain ⟨f1, f2, -, -⟩ := mn_T_ok T k r n w v i
    have hin : T.heap.size < (mn_T T k r n w v i).heap.size := by rw [f1]; omega
    have h := (ih.pushed (mn_A r w v)).stored ((State.heap_pushCell_of_lt _ _ hin).trans f2) i (.ref (T.heap.size + 1 + i))
    rw [mn_A_sz] at h
    rw [List.range_succ, List.map_append, ← List.append_assoc, show slots + n + (i + 1) * w = slots + n + i * w + w by rw [Nat.succ_mul]; omega]
    exact h
theorem mn_over {A : Array Value} {ty : FieldType} (h : (Cond.arrayOver (.array ty)).before A s = true) : ∃ (r k : ClassId) (K : Class), s.vm.findClass (FieldType.array ty).toString = some r ∧ s.vm.classes[k]? = some K ∧ K.kind = .array r (.array ty) ∧ s.vm.findClass ("[" ++ (FieldType.array ty).toString) = some k := by
  simp only [Cond.before, Cond.holds, Cond.value, beq_iff_eq] at h
  cases hr : s.vm.findClass (FieldType.array ty).toString with
  | none => simp [hr] at h
  | some r =>
    simp only [hr, Option.bind_some, Option.bind_eq_some_iff, Option.map_eq_some_iff] at h
    obtain ⟨k, hi, K, hK, hb⟩ := h
    obtain ⟨hlt, hp, -⟩ := Array.findIdx?_eq_some_iff_getElem.mp hi
    rw [(Array.getElem?_eq_some_iff.mp hK).2] at hp
    cases hkd : K.kind with
    | array r2 t2 =>
      rw [hkd] at hb hp
      simp at hb hp
      exact ⟨r, k, K, rfl, hK, by rw [hkd, hp, hb.1], hb.2⟩
    | _ => rw [hkd] at hb; simp at hb
end MNS
/-- what the tables say of an array of arrays, as a caller hands it on -/
def mn_AO (ty : FieldType) (U : State) : Prop := ∃ (r k : ClassId) (K : Class), U.vm.findClass (FieldType.array ty).toString = some r ∧ U.vm.classes[k]? = some K ∧ K.kind = .array r (.array ty) ∧ U.vm.findClass ("[" ++ (FieldType.array ty).toString) = some k
theorem mn_AO_of {ty : FieldType} {A : Array Value} {U : State} (h : (Cond.arrayOver (.array ty)).before A U = true) : mn_AO ty U := mn_over h
theorem mn_AO_moved {ty : FieldType} {u U : State} (hvm : u.vm.Alike U.vm) (h : mn_AO ty u) : mn_AO ty U := by
  obtain ⟨r, k, K, h1, h2, h3, h4⟩ := h
  obtain ⟨K2, h5, h6⟩ := hvm.2.2 _ _ h2
  exact ⟨r, k, K2, by rw [hvm.findClass]; exact h1, h5, by rw [h6]; exact h3, by rw [hvm.findClass]; exact h4⟩
/-- the rows that are laid -/
theorem mn_T_row (U : State) (k r : ClassId) (n w : Nat) (v : Value) (i : Nat) : ∀ j : Nat, j < i → (mn_T U k r n w v i).heap[U.heap.size + 1 + j]? = some (mn_A r w v) := by
  induction i with
  | zero => intro j hj; omega
  | succ i ih =>
    intro j hj
    have h1 := (mn_T_ok U k r n w v i).1
    refine Eq.trans (State.heap_setCell_other (show U.heap.size ≠ U.heap.size + 1 + j by omega)) ?_
    by_cases e : j = i
    · subst e
      have : U.heap.size + 1 + j = (mn_T U k r n w v j).heap.size := by rw [h1]
      rw [this]
      simp
    · have hlt : U.heap.size + 1 + j < (mn_T U k r n w v i).heap.size := by rw [h1]; omega
      exact (State.heap_pushCell_of_lt _ _ hlt).trans (ih j (by omega))
theorem mn_O_at (k : ClassId) (n a : Nat) (i : Nat) (hi : i ≤ n) : mn_O k n a i = arrV k n (fun j => if j < i then .ref (a + 1 + j) else .null) := by
  induction i with
  | zero =>
    show mn_A k n .null = _
    unfold mn_A
    rw [arrV_new]
    congr 1
  | succ i ih =>
    show (mn_O k n a i).setSlot i (.ref (a + 1 + i)) = _
    rw [ih (by omega), arrV_store]
    congr 1
    funext q
    by_cases h : q = i
    · subst h
      simp [updV]
    · have e : (q < i + 1) = (q < i) := by
        apply propext
        omega
      simp [updV, h, e]
section MNR
variable {p : Program} {l : Launch} {e : Env} {R : Room} {s : State} {m : MethodId} {args : Array Value} {below : List Frame} {meth : Method} {c : Code} {H H0 : Heap} {locs : List Loc} {cells slots : Nat} {Q : State → Prop}
variable {pc : Nat} {ls : Array Slot} {rest : List Value} {A : Nat → Prop}
/-- THE ROW: multianewarray of two dimensions -/
theorem jn_row {cc : ByteArray} (hx : p.tables.exec = Jvm.exec) (hb : c.code = cc) {own : String} {index : Nat} {ty : FieldType} (hown : s.vm.findClass own = some m.cls) (hcl : (Cond.classLink own index ("[" ++ (FieldType.array ty).toString)).before args s = true) (hov : mn_AO ty s) (har : (Cond.arrayClass ty).before args s = true)
    (hS : va_S A H0 H locs) (hA : ∀ q, H0.size ≤ q → A q) {n w : Int32} {N M : Nat} (hn : ¬ n < 0) (hw : ¬ w < 0) (hN : n.toNatClampNeg = N) (hM : w.toNatClampNeg = M) (b1 : N * 4 ≤ 536870912) (b2 : M * componentBytes ty ≤ 536870912) (b3 : M ≤ 536870912)
    (h5 : fits ty (defaultValue ty) = true) (h6 : (defaultValue ty).isDefault = true) (hc : cells + (1 + N) ≤ R.cells) (hs : slots + (N + N * M) ≤ R.slots) (hdg : decode cc pc = .ok (.multianewarray index 2, 4))
    (kk : ∀ (k r : ClassId) (H1 : Heap) (locs1 : List Loc), s.vm.findClass ("[" ++ (FieldType.array ty).toString) = some k → s.vm.findClass (FieldType.array ty).toString = some r → H1[H.size]? = some (arrV k N (fun j => if j < N then .ref (H.size + 1 + j) else .null)) → (∀ j : Nat, j < N → H1[H.size + 1 + j]? = some (arrV r M (fun _ => defaultValue ty))) → (∀ x : Nat, x < H.size → H1[x]? = H[x]?) → H1.size = H.size + 1 + N → va_S A H0 H1 locs1 → W p l e R s m args below meth c H1 locs1 (cells + 1 + N) (slots + N + N * M) Q (F0 m (pc + 4) ls (.ref H.size :: rest))) : W p l e R s m args below meth c H locs cells slots Q (F0 m pc ls (.int w :: .int n :: rest)) := by
  subst hN
  subst hM
  intro T hT X
  have hpl : e.platform.magicAccessors = ({} : Platform).magicAccessors := by rw [X.admits.platform]
  obtain ⟨r, k, K, hr, hk, hK, hnm⟩ := hov
  obtain ⟨r9, Kr, r2, hr9, hkr, hKr⟩ := Cond.arrayClass_spec har
  cases Option.some.inj (hr9.symm.trans hr)
  obtain ⟨k9, hk9, hent⟩ := Cond.classLink_spec hown hcl e.platform hpl
  cases Option.some.inj (hnm.symm.trans hk9)
  obtain ⟨g1, g2, g3⟩ := State.classEntry (e := e) X.warmed hent
  generalize T.vm.noted m.cls index (.cls k) = V at g1 g2 g3
  obtain ⟨K1, i1, j1⟩ := g2.alike.2.2 _ _ hk
  obtain ⟨K2, i2, j2⟩ := g2.alike.2.2 _ _ hkr
  obtain ⟨m1, m2⟩ := X.roomAbove hc hs
  have X1 := mn_stand (X.noted g2) k r n.toNatClampNeg w.toNatClampNeg (defaultValue ty) n.toNatClampNeg
  obtain ⟨f1, f2, f3, f4⟩ := mn_T_ok (T.setVm V) k r n.toNatClampNeg w.toNatClampNeg (defaultValue ty) n.toNatClampNeg
  have hold : ∀ x : Nat, x < H.size → (mn_T (T.setVm V) k r n.toNatClampNeg w.toNatClampNeg (defaultValue ty) n.toNatClampNeg).heap[x]? = H[x]? := fun x hx9 => by
    rw [mn_T_old (T.setVm V) k r _ _ _ (x := x) (show x < T.heap.size by rw [hT]; exact hx9)]
    show T.heap[x]? = _
    rw [hT]
  have hS1 : va_S A H0 (mn_T (T.setVm V) k r n.toNatClampNeg w.toNatClampNeg (defaultValue ty) n.toNatClampNeg).heap (locs ++ (List.range n.toNatClampNeg).map (fun j => (⟨(T.setVm V).heap.size, j⟩ : Loc))) := by
    refine ⟨?_, fun q h1 h2 => ?_, fun z hz => ?_⟩
    · rw [f1]
      show H0.size ≤ T.heap.size + 1 + _
      rw [hT]
      have := hS.1
      omega
    · rw [hold q (Nat.lt_of_lt_of_le h1 hS.1)]
      exact hS.2.1 q h1 h2
    · rcases List.mem_append.mp hz with hz | hz
      · exact hS.2.2 z hz
      · obtain ⟨j, -, rfl⟩ := List.mem_map.mp hz
        refine hA _ ?_
        show H0.size ≤ T.heap.size
        rw [hT]
        exact hS.1
  have hrows := mn_T_row (T.setVm V) k r n.toNatClampNeg w.toNatClampNeg (defaultValue ty) n.toNatClampNeg
  have eH : (T.setVm V).heap.size = H.size := by show T.heap.size = _; rw [hT]
  rw [eH] at f1 f2 hrows
  rw [mn_O_at k n.toNatClampNeg H.size n.toNatClampNeg (Nat.le_refl _)] at f2
  obtain ⟨t, a1, a2⟩ := kk k r _ _ hnm hr f2 (fun j hj => by rw [hrows j hj]; unfold mn_A; rw [arrV_new]) hold f1 hS1 _ rfl X1
  rw [← eH] at a1
  refine ⟨t, ?_, a2⟩
  have l1 : ¬ n.toNatClampNeg > e.platform.arrayLengthLimit := by rw [Launch.admits_arrayLengthLimit X.admits]; omega
  have l2 : ¬ n.toNatClampNeg * componentBytes (.array ty) > e.platform.maxHeapBytes := by
    rw [Launch.admits_maxHeapBytes X.admits]
    show ¬ n.toNatClampNeg * 4 > 536870912
    omega
  have l3 : ¬ w.toNatClampNeg > e.platform.arrayLengthLimit := by rw [Launch.admits_arrayLengthLimit X.admits]; omega
  have l4 : ¬ w.toNatClampNeg * componentBytes ty > e.platform.maxHeapBytes := by rw [Launch.admits_maxHeapBytes X.admits]; omega
  jvm_step X.here [hx, hb, hdg]
  simp only [multianewarray.sem, wp_bind', W.resolveClassAt_links (State.method?_setTop (F0 m pc ls (.int w :: .int n :: rest)) X.here.top) g1]
  rw [W.popN, if_neg (by decide)]
  refine ⟨F0 m pc ls (.int w :: .int n :: rest), State.topJava?_setTop' (s := T.setVm V) _ X.here.top, [.int n, .int w], rest, rfl, rfl, ?_⟩
  simp only [List.mapM_cons, List.mapM_nil, wp_bind', wp_pure']
  refine mn_two (K := K1) (Kr := K2) (r := r) (r2 := r2) (ty := ty) i1 (by rw [j1]; exact hK) i2 (by rw [j2]; exact hKr) hn hw l1 l2 l3 l4 h5 h6 (by show T.heap.size + 1 + _ ≤ _; omega) (by show T.slotsUsed + _ + _ ≤ _; omega) (fun d2 acts2 => ?_)
  have eS : ((T.setTop (F0 m pc ls (.int w :: .int n :: rest))).setVm V).setTop { F0 m pc ls (.int w :: .int n :: rest) with stack := rest } = (T.setVm V).setTop { F0 m pc ls (.int w :: .int n :: rest) with stack := rest } := by
    show ((T.setVm V).setTop (F0 m pc ls (.int w :: .int n :: rest))).setTop _ = _
    rw [State.setTop_setTop]
  rw [eS, mn_T_top]
  simp only [wp_bind', W.mark, W.pushRef, State.topJava?_setTop' _ X1.here.top, Option.some.injEq, exists_eq_left', State.setTop_setTop, State.heap_setTop]
  intro acts3
  simp [jvm, X1.here.top]
  exact a1
end MNR
