section JA
variable {p : Program} {l : Launch} {e : Env} {R : Room} {s : State} {m : MethodId} {args : Array Value} {below : List Frame} {meth : Method} {c : Code} {H : Heap} {locs : List Loc} {cells slots : Nat} {Q : State → Prop}
variable {cc : ByteArray} {pc : Nat} {ls : Array Slot} {rest : List Value} {D : va_G} {A : Nat → Prop} {a : Nat} {tys : List (ClassId × FieldType)} {H0 : Heap} {ca : Nat → ClassId}
/-- a reference stored in an array: what is elsewhere stays -/
theorem jz_aast (hx : p.tables.exec = Jvm.exec) (hb : c.code = cc) (hK : va_K D vwCl tys s) (t0 ci : Nat) {n kd v : Nat} {r : vw_C} {vs : List Value} {f : Nat → Option Nat} (hc : va_at D vwCl (a, je_q ca n kd f) H) (hv : va_at D vwCl (v, .inr (ci, vs)) H) (hcl : vwCl[ci]? = some r) (ht : tys[t0]? = some (ca kd, .object r.1)) (hS : va_S A H0 H locs) (hA : A a) {z : Int} (h0 : 0 ≤ z ∧ z < n) (hn : n ≤ 2147483647) (hd : decode cc pc = .ok (.aastore, 1))
    (kk : ∀ (H1 : Heap) (locs1 : List Loc), va_at D vwCl (a, je_q ca n kd (va_up f z.toNat (some v))) H1 → (∀ q : Nat, q ≠ a → H1[q]? = H[q]?) → va_S A H0 H1 locs1 → W p l e R s m args below meth c H1 locs1 cells slots Q (F0 m (pc + 1) ls rest)) : W p l e R s m args below meth c H locs cells slots Q (F0 m pc ls (.ref v :: .int (kz z) :: .ref a :: rest)) := by
  have hin := kz_in h0.1 h0.2 hn
  have hc9 := kz_clamp h0.1 (by omega : z ≤ 2147483647)
  have hlt : (kz z).toNatClampNeg < n := by rw [hc9]; omega
  have h00 : ¬ kz z < 0 := fun q => hin (Or.inl q)
  obtain ⟨r', hr', cellV, g1, g2, g3, -⟩ := hv
  have hcls := (hK.1 ci r hcl).2
  obtain ⟨kA, comp, k1, k2, k3, -⟩ := (hK.2 t0 _ ht).2
  obtain rfl : comp = D.1 ci := Option.some.inj (k3.symm.trans hcls.1)
  obtain ⟨kC, hkC, -⟩ := hcls.2
  refine W.aast hx hb hc (fun q h => by cases h) (fun h => by cases h) k1 k2 rfl hkC ⟨h00, by show _ < (arrV _ _ _).slots.size; rw [arrV_size]; exact hlt⟩ g1 (fun q h => by rw [g3] at h; cases h) (by rw [g2]; exact hkC) (by rw [g2]; exact va_assign hcls) rfl rfl hd fun H1 e1 e2 e3 => ?_
  refine kk H1 _ ?_ e3 (hS.put e2 e3 hA)
  show H1[a]? = some (vp_cell _ _)
  rw [e1, hc9]
  show some ((vp_cell (ca kd) (n, .inr (.inr (.inr (.inr f))))).setSlot _ _) = some (vp_cell (ca kd) (n, .inr (.inr (.inr (.inr _)))))
  rw [vp_cell_q, vp_cell_q, arrV_store]
  congr 2
  funext q
  by_cases hq : q = z.toNat
  · subst hq
    simp [updV, va_up, va_rf]
  · simp [updV, va_up, hq]
theorem jz_aastN (hx : p.tables.exec = Jvm.exec) (hb : c.code = cc) (hK : va_K D vwCl tys s) (t0 : Nat) {n kd : Nat} {C : String} {f : Nat → Option Nat} (hc : va_at D vwCl (a, je_q ca n kd f) H) (ht : tys[t0]? = some (ca kd, .object C)) (hS : va_S A H0 H locs) (hA : A a) {z : Int} (h0 : 0 ≤ z ∧ z < n) (hn : n ≤ 2147483647) (hd : decode cc pc = .ok (.aastore, 1))
    (kk : ∀ (H1 : Heap) (locs1 : List Loc), va_at D vwCl (a, je_q ca n kd (va_up f z.toNat none)) H1 → (∀ q : Nat, q ≠ a → H1[q]? = H[q]?) → va_S A H0 H1 locs1 → W p l e R s m args below meth c H1 locs1 cells slots Q (F0 m (pc + 1) ls rest)) : W p l e R s m args below meth c H locs cells slots Q (F0 m pc ls (.null :: .int (kz z) :: .ref a :: rest)) := by
  have hin := kz_in h0.1 h0.2 hn
  have hc9 := kz_clamp h0.1 (by omega : z ≤ 2147483647)
  refine va_WaastN (C := C) hx hb hc ((hK.2 t0 _ ht).1 n (fun j => va_rf (f j))) (fun h => by cases h) (by show ¬ (kz z < 0 ∨ (arrV _ _ _).slots.size ≤ _); rw [arrV_size]; exact hin) rfl rfl hd fun H1 e1 e2 e3 => ?_
  refine kk H1 _ ?_ e3 (hS.put e2 e3 hA)
  show H1[a]? = some (vp_cell _ _)
  rw [e1, hc9]
  show some ((vp_cell (ca kd) (n, .inr (.inr (.inr (.inr f))))).setSlot _ _) = some (vp_cell (ca kd) (n, .inr (.inr (.inr (.inr _)))))
  rw [vp_cell_q, vp_cell_q, arrV_store]
  congr 2
  funext q
  by_cases hq : q = z.toNat
  · subst hq
    simp [updV, va_up, va_rf]
  · simp [updV, va_up, hq]
end JA
