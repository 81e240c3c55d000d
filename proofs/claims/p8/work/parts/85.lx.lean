/-! what the law holds of its two sides between two calls -/
def lAm (m0 n1 : Nat) : Nat → Prop := fun q => q = m0 ∨ (n1 ≤ q ∧ q < n1 + 34)
def lAx (lo m0 n1 : Nat) : Nat → Prop := fun q => lo ≤ q ∧ ¬ lAm m0 n1 q
def lM (D : va_G) (ca : Nat → ClassId) (m0 n1 : Nat) (fm : Nat → Int32) (H : Heap) : Prop := ∃ (X : kGh) (zi : Nat → Int) (zl : Nat → Int64), mS X (lAm m0 n1) m0 (mam n1) ∧ mZ X (mam n1) zi ∧ mI D ca (lAm m0 n1) X m0 (mam n1) zi zl H ∧ va_at D vwCl (mam n1 18, .inl (ca 20, 36, .inl fm)) H
def lF (X : jG) : Prop := (∀ q : Nat, X.1 q ≠ (4, 30, 0, 0, 0)) ∧ (∀ q : Nat, X.1 q ≠ (226, 26, 8, 0, 0)) ∧ (∀ q : Nat, X.1 q ≠ (226, 26, 8, 1, 0)) ∧ (∀ q : Nat, X.1 q ≠ (228, 20, 8, -2147483648, 2147483647)) ∧ (∀ q : Nat, X.1 q ≠ (3, 30, 0, 0, 0)) ∧ (∀ q : Nat, X.1 q ≠ (219, 27, 40, 232, 160)) ∧ (∀ q : Nat, X.1 q ≠ (204, 21, 40, 0, 0)) ∧ (∀ q : Nat, X.1 q ≠ (220, 23, 160, 0, 0)) ∧ (∀ q : Nat, X.1 q ≠ (221, 28, 40, 233, 40)) ∧ (∀ q : Nat, X.1 q ≠ (222, 27, 40, 234, 40)) ∧ (∀ q : Nat, X.1 q ≠ (223, 28, 40, 235, 144)) ∧ (∀ q : Nat, X.1 q ≠ (224, 27, 40, 236, 144)) ∧ (∀ q : Nat, X.1 q ≠ (225, 22, 36, 0, 0)) ∧ fidL X [0, 1, 2, 3, 4, 5, 6, 7, 8, 9, 10, 11, 12, 13, 14, 15]
def lX (D : va_G) (ca : Nat → ClassId) (lo m0 n1 o z9 : Nat) (ff : Nat → Int32) (pv : Option Nat) (st : Int) (H : Heap) : Prop := ∃ (X : jG) (t1 t2 t3 t4 t5 : Nat), jU X ∧ jv D ca (lAx lo m0 n1) X H ∧ X.1 o = (999, 0, 0, 0, 0) ∧ X.1 t1 = (8, 30, 0, 0, 0) ∧ X.1 t2 = (9, 30, 0, 0, 0) ∧ X.1 t3 = (6, 30, 0, 0, 0) ∧ X.1 t4 = (10, 30, 0, 0, 0) ∧ X.1 t5 = (1, 30, 0, 0, 0) ∧ (∀ b : Nat, pv = some b → X.1 b = (4, 30, 0, 0, 0)) ∧ (0 ≤ st ∧ st ≤ 20) ∧ va_at D vwCl (o, .inr (11, [.ref t1, .ref t2, .ref t3, .ref t4, .ref t5, va_rf pv, .int (kz st)])) H ∧ (∀ q : Nat, (X.1 q).2.1 ≠ 0 → (X.1 q).1 = 9 → q = t2) ∧ (pv = none → lF X) ∧ X.1 z9 = (229, 20, 36, -1, 5) ∧ va_at D vwCl (z9, .inl (ca 20, 36, .inl ff)) H
def lrc (pv : Option Nat) : Nat := match pv with
  | none => 277
  | some _ => 0
def lrs (pv : Option Nat) : Nat := match pv with
  | none => 23025
  | some _ => 0
def bud (k : Nat) (pv : Option Nat) (cells slots : Nat) : Prop := cells + lrc pv ≤ 500 + 41 * k ∧ slots + lrs pv ≤ 150000 + 9640 * k
theorem lM_kept {D : va_G} {ca : Nat → ClassId} {lo m0 n1 : Nat} {fm : Nat → Int32} {H H1 : Heap} (h : lM D ca m0 n1 fm H) (hk : ∀ q : Nat, q < H.size → ¬ lAx lo m0 n1 q → H1[q]? = H[q]?) : lM D ca m0 n1 fm H1 := by
  obtain ⟨X, zi, zl, hS, hZ, ⟨hI, hO⟩, e⟩ := h
  refine ⟨X, zi, zl, hS, hZ, ⟨fun q hq => ?_, hO.kept (hk _ hO.lt (fun h9 => h9.2 (Or.inl rfl)))⟩, e.kept (hk _ e.lt (fun h9 => h9.2 (Or.inr ⟨Nat.le_add_right _ _, Nat.add_lt_add_left (by decide) _⟩)))⟩
  obtain ⟨h1, x, h2, h3⟩ := hI q hq
  exact ⟨h1, x, h2.kept (hk q h2.lt (fun h9 => h9.2 h1)), h3⟩
theorem lX_kept {D : va_G} {ca : Nat → ClassId} {lo m0 n1 o z9 : Nat} {ff : Nat → Int32} {pv : Option Nat} {st : Int} {H H1 : Heap} (h : lX D ca lo m0 n1 o z9 ff pv st H) (hAo : lAx lo m0 n1 o) (hk : ∀ q : Nat, q < H.size → ¬ lAm m0 n1 q → H1[q]? = H[q]?) : lX D ca lo m0 n1 o z9 ff pv st H1 := by
  obtain ⟨X, t1, t2, t3, t4, t5, hU, hI, g_o, g1, g2, g3, g4, g5, hpv, hst, hO, h9, hF, g_z, c_z⟩ := h
  exact ⟨X, t1, t2, t3, t4, t5, hU, jv_keep hI (fun q hq => hk q (jv_lt hI hq) (hI q hq).1.2), g_o, g1, g2, g3, g4, g5, hpv, hst, hO.kept (hk _ hO.lt hAo.2), h9, hF, g_z, c_z.kept (hk _ c_z.lt (hI z9 (by rw [g_z]; decide)).1.2)⟩
theorem lM_sz {D : va_G} {ca : Nat → ClassId} {m0 n1 : Nat} {fm : Nat → Int32} {H : Heap} (h : lM D ca m0 n1 fm H) : n1 + 34 ≤ H.size ∧ m0 < H.size := by
  obtain ⟨X, zi, zl, hS, hZ, ⟨hI, hO⟩, e⟩ := h
  have g : X.1 (mam n1 48) = (148, 20, 1860, -2147483648, 2147483647) := hS.1 48 _ rfl (by decide)
  obtain ⟨-, x, h2, -⟩ := hI (mam n1 48) (by rw [g]; decide)
  have h3 : n1 + 33 < H.size := h2.lt
  exact ⟨by omega, hO.lt⟩
theorem lA9 {D : va_G} {ca : Nat → ClassId} {lo m0 n1 : Nat} {fm : Nat → Int32} {H : Heap} (h : lM D ca m0 n1 fm H) (hlo : lo ≤ H.size) : ∀ q : Nat, H.size ≤ q → lAx lo m0 n1 q := fun q hq => by
  obtain ⟨h1, h2⟩ := lM_sz h
  refine ⟨by omega, fun h9 => ?_⟩
  rcases h9 with h9 | h9 <;> omega
theorem prl_no {X Y : jG} {o : Nat} {L : List Nat} {t : kTy} (hP : prl X Y o L) (hn : ∀ q : Nat, X.1 q ≠ t) (ht : t.1 ∉ L) : ∀ q : Nat, Y.1 q ≠ t := fun q e => by
  rcases hP.2.2 q with h | h
  · rw [h] at e
    exact hn q e
  · exact ht (by rw [← e]; exact h.2.2)
theorem prl_t {X Y : jG} {o a : Nat} {L : List Nat} {t : kTy} (hP : prl X Y o L) (hg : X.1 a = t) (ht : t.2.1 ≠ 0) : Y.1 a = t := by
  rcases hP.2.2 a with h | h
  · rw [h, hg]
  · rw [hg] at h
    exact absurd h.1 ht
theorem lF_prl {X Y : jG} {o : Nat} (h : lF X) (hP : prl X Y o [2, 201, 7, 202, 237, 238]) : lF Y := by
  obtain ⟨h1, h2, h3, h4, h5, h6, h7, h8, h9, h10, h11, h12, h13, hf⟩ := h
  refine ⟨prl_no hP h1 (by decide), prl_no hP h2 (by decide), prl_no hP h3 (by decide), prl_no hP h4 (by decide), prl_no hP h5 (by decide), prl_no hP h6 (by decide), prl_no hP h7 (by decide), prl_no hP h8 (by decide), prl_no hP h9 (by decide), prl_no hP h10 (by decide), prl_no hP h11 (by decide), prl_no hP h12 (by decide), prl_no hP h13 (by decide), fun q hq => ?_⟩
  rcases hP.2.2 q with e | e
  · rw [e] at hq ⊢
    exact hf q hq
  · have hc : (Y.1 q).1 = 2 ∨ (Y.1 q).1 = 201 ∨ (Y.1 q).1 = 7 ∨ (Y.1 q).1 = 202 ∨ (Y.1 q).1 = 237 ∨ (Y.1 q).1 = 238 := by simpa using e.2.2
    have e2 : fid (Y.1 q) = -1 := by
      unfold fid
      rw [if_neg (by omega), if_neg (by omega)]
    rw [e2]
    decide
theorem lX_mk {D : va_G} {ca : Nat → ClassId} {lo m0 n1 o z9 : Nat} {ff : Nat → Int32} {pv : Option Nat} {st : Int} {H : Heap} {X Y : jG} {L : List Nat} {t1 t2 t3 t4 t5 : Nat} (hP : prl X Y o L) (hL : 9 ∉ L) (hI : jv D ca (lAx lo m0 n1) Y H) (g_o : X.1 o = (999, 0, 0, 0, 0)) (g1 : X.1 t1 = (8, 30, 0, 0, 0)) (g2 : X.1 t2 = (9, 30, 0, 0, 0)) (g3 : X.1 t3 = (6, 30, 0, 0, 0)) (g4 : X.1 t4 = (10, 30, 0, 0, 0)) (g5 : X.1 t5 = (1, 30, 0, 0, 0)) (hpv : ∀ b : Nat, pv = some b → Y.1 b = (4, 30, 0, 0, 0)) (hst : 0 ≤ st ∧ st ≤ 20) (hO : va_at D vwCl (o, .inr (11, [.ref t1, .ref t2, .ref t3, .ref t4, .ref t5, va_rf pv, .int (kz st)])) H) (ht9 : ∀ q : Nat, (X.1 q).2.1 ≠ 0 → (X.1 q).1 = 9 → q = t2) (hF : pv = none → lF Y) (g_z : X.1 z9 = (229, 20, 36, -1, 5)) (c_z : va_at D vwCl (z9, .inl (ca 20, 36, .inl ff)) H) : lX D ca lo m0 n1 o z9 ff pv st H := by
  refine ⟨Y, t1, t2, t3, t4, t5, hP.1, hI, hP.2.1.trans g_o, prl_t hP g1 (show (30 : Nat) ≠ 0 by decide), prl_t hP g2 (show (30 : Nat) ≠ 0 by decide), prl_t hP g3 (show (30 : Nat) ≠ 0 by decide), prl_t hP g4 (show (30 : Nat) ≠ 0 by decide), prl_t hP g5 (show (30 : Nat) ≠ 0 by decide), hpv, hst, hO, fun q h1 h2 => ?_, hF, prl_t hP g_z (by decide), c_z⟩
  rcases hP.2.2 q with e | e
  · rw [e] at h1 h2
    exact ht9 q h1 h2
  · rw [h2] at e
    exact absurd e.2.2 hL
def lR (ff fm : Nat → Int32) : Prop := ∀ z : Int, 0 ≤ z ∧ z < 36 → ge1 ff z = ge1 fm z
/-- what stays in the law's rounds: the machine, the tables, the two objects' places, the place in the script -/
def lCx (p : Program) (s : State) (m : MethodId) (meth : Method) (c : Code) (b L : Nat) (xs : Nat → Int32) (D : va_G) (ca : Nat → ClassId) (o m0 n1 k : Nat) : Prop := lw_At p s m meth c b L xs ∧ L ≤ 3072 ∧ jK D ca s ∧ va_K D vwCl (k_tys ca) s ∧ lAx s.heap.size m0 n1 o ∧ (∀ q : Nat, lAm m0 n1 q → s.heap.size ≤ q) ∧ 6 * k + 6 ≤ L
def lKk (p : Program) (l : Launch) (e : Env) (s : State) (m : MethodId) (below : List Frame) (meth : Method) (c : Code) (b : Nat) (D : va_G) (ca : Nat → ClassId) (o m0 n1 z9 k : Nat) : Prop := ∀ (ff fm : Nat → Int32) (pv : Option Nat) (st : Int) (H : Heap) (locs : List Loc) (ls : Array Slot) (cells slots : Nat), lX D ca s.heap.size m0 n1 o z9 ff pv st H → lM D ca m0 n1 fm H → lR ff fm → va_S (fun q : Nat => s.heap.size ≤ q) s.heap H locs → lv_has ls 4 [(3, .int (kz (6 * (k : Int)))), (2, .ref m0), (1, .ref o), (0, .ref b)] → bud (k + 1) pv cells slots → W p l e room_1 s m #[Value.ref b] below meth c H locs cells slots (lw_Z below #[Value.ref b] s) (F0 m 1022 ls [])
theorem aT_class {A : Array Value} {s : State} {ty : FieldType} (h : (Cond.arrayClass ty).before A s = true) : ∃ c9 : ClassId, ArrOfT s c9 ty ∧ s.vm.findClass ("[" ++ ty.toString) = some c9 := by
  obtain ⟨c9, k9, comp, h1, h2, h3⟩ := Cond.arrayClass_spec h
  exact ⟨c9, fun n z => ⟨fun k h => (by cases h), k9, h2, comp, h3⟩, h1⟩
theorem aT_obj {A : Array Value} {s : State} {C : String} (h : (Cond.arrayOver (.object C)).before A s = true) : ∃ c9 : ClassId, ArrOfT s c9 (.object C) ∧ va_RA s c9 (.object C) := by
  obtain ⟨comp, c9, k9, h1, h2, h3, h4, h5⟩ := Cond.arrayOver_spec h
  exact ⟨c9, fun n z => ⟨fun k h => (by cases h), k9, h3, comp, h4⟩, k9, comp, h3, h4, h1, h5⟩
theorem aT_arr {A : Array Value} {s : State} {ty : FieldType} (h : (Cond.arrayOver (.array ty)).before A s = true) : ∃ c9 : ClassId, ArrOfT s c9 (.array ty) ∧ s.vm.findClass ("[" ++ (FieldType.array ty).toString) = some c9 := by
  obtain ⟨r, k9, K9, h1, h2, h3, h4⟩ := mn_AO_of h
  exact ⟨k9, fun n z => ⟨fun k h => (by cases h), K9, h2, r, h3⟩, h4⟩
