section IZLA
variable {p : Program} {l : Launch} {e : Env} {R : Room} {s : State} {m : MethodId} {args : Array Value} {below : List Frame} {meth : Method} {c : Code} {H : Heap} {locs : List Loc} {cells slots : Nat} {Q : State → Prop} {pc : Nat} {ls : Array Slot}
theorem iz_loopA0 {α : Type} {P : Nat → α → Heap → List Loc → Array Slot → Prop} (n0 : Nat) (a0 : α) (st : ∀ (n : Nat) (a : α) (H : Heap) (locs : List Loc) (ls : Array Slot), P n a H locs ls → (∀ n' : Nat, n' < n → ∀ (a' : α) (H' : Heap) (locs' : List Loc) (ls' : Array Slot), P n' a' H' locs' ls' → W p l e R s m args below meth c H' locs' cells slots Q (F0 m pc ls' [])) → W p l e R s m args below meth c H locs cells slots Q (F0 m pc ls [])) (h0 : P n0 a0 H locs ls) : W p l e R s m args below meth c H locs cells slots Q (F0 m pc ls []) := by
  have key : ∀ (n : Nat) (a : α) (H : Heap) (locs : List Loc) (ls : Array Slot), P n a H locs ls → W p l e R s m args below meth c H locs cells slots Q (F0 m pc ls []) := by
    intro n
    induction n using Nat.strongRecOn with
    | _ n ih => exact fun a H locs ls h => st n a H locs ls h (fun n' hn => ih n' hn)
  exact key n0 a0  H locs ls h0
theorem iz_loopA1 {α : Type} {P : Nat → α → Int → Heap → List Loc → Array Slot → Prop} (n0 : Nat) (a0 : α) {x0 : Int} (st : ∀ (n : Nat) (a : α) (i0 : Int) (H : Heap) (locs : List Loc) (ls : Array Slot), P n a i0 H locs ls → (∀ n' : Nat, n' < n → ∀ (a' : α) (i0' : Int) (H' : Heap) (locs' : List Loc) (ls' : Array Slot), P n' a' i0' H' locs' ls' → W p l e R s m args below meth c H' locs' cells slots Q (F0 m pc ls' [])) → W p l e R s m args below meth c H locs cells slots Q (F0 m pc ls [])) (h0 : P n0 a0 x0 H locs ls) : W p l e R s m args below meth c H locs cells slots Q (F0 m pc ls []) := by
  have key : ∀ (n : Nat) (a : α) (i0 : Int) (H : Heap) (locs : List Loc) (ls : Array Slot), P n a i0 H locs ls → W p l e R s m args below meth c H locs cells slots Q (F0 m pc ls []) := by
    intro n
    induction n using Nat.strongRecOn with
    | _ n ih => exact fun a i0 H locs ls h => st n a i0 H locs ls h (fun n' hn => ih n' hn)
  exact key n0 a0 _ H locs ls h0
theorem iz_loopA2 {α : Type} {P : Nat → α → Int → Int → Heap → List Loc → Array Slot → Prop} (n0 : Nat) (a0 : α) {x0 : Int} {x1 : Int} (st : ∀ (n : Nat) (a : α) (i0 i1 : Int) (H : Heap) (locs : List Loc) (ls : Array Slot), P n a i0 i1 H locs ls → (∀ n' : Nat, n' < n → ∀ (a' : α) (i0' i1' : Int) (H' : Heap) (locs' : List Loc) (ls' : Array Slot), P n' a' i0' i1' H' locs' ls' → W p l e R s m args below meth c H' locs' cells slots Q (F0 m pc ls' [])) → W p l e R s m args below meth c H locs cells slots Q (F0 m pc ls [])) (h0 : P n0 a0 x0 x1 H locs ls) : W p l e R s m args below meth c H locs cells slots Q (F0 m pc ls []) := by
  have key : ∀ (n : Nat) (a : α) (i0 i1 : Int) (H : Heap) (locs : List Loc) (ls : Array Slot), P n a i0 i1 H locs ls → W p l e R s m args below meth c H locs cells slots Q (F0 m pc ls []) := by
    intro n
    induction n using Nat.strongRecOn with
    | _ n ih => exact fun a i0 i1 H locs ls h => st n a i0 i1 H locs ls h (fun n' hn => ih n' hn)
  exact key n0 a0 _ _ H locs ls h0
theorem iz_loopA3 {α : Type} {P : Nat → α → Int → Int → Int → Heap → List Loc → Array Slot → Prop} (n0 : Nat) (a0 : α) {x0 : Int} {x1 : Int} {x2 : Int} (st : ∀ (n : Nat) (a : α) (i0 i1 i2 : Int) (H : Heap) (locs : List Loc) (ls : Array Slot), P n a i0 i1 i2 H locs ls → (∀ n' : Nat, n' < n → ∀ (a' : α) (i0' i1' i2' : Int) (H' : Heap) (locs' : List Loc) (ls' : Array Slot), P n' a' i0' i1' i2' H' locs' ls' → W p l e R s m args below meth c H' locs' cells slots Q (F0 m pc ls' [])) → W p l e R s m args below meth c H locs cells slots Q (F0 m pc ls [])) (h0 : P n0 a0 x0 x1 x2 H locs ls) : W p l e R s m args below meth c H locs cells slots Q (F0 m pc ls []) := by
  have key : ∀ (n : Nat) (a : α) (i0 i1 i2 : Int) (H : Heap) (locs : List Loc) (ls : Array Slot), P n a i0 i1 i2 H locs ls → W p l e R s m args below meth c H locs cells slots Q (F0 m pc ls []) := by
    intro n
    induction n using Nat.strongRecOn with
    | _ n ih => exact fun a i0 i1 i2 H locs ls h => st n a i0 i1 i2 H locs ls h (fun n' hn => ih n' hn)
  exact key n0 a0 _ _ _ H locs ls h0
theorem iz_loopA4 {α : Type} {P : Nat → α → Int → Int → Int → Int → Heap → List Loc → Array Slot → Prop} (n0 : Nat) (a0 : α) {x0 : Int} {x1 : Int} {x2 : Int} {x3 : Int} (st : ∀ (n : Nat) (a : α) (i0 i1 i2 i3 : Int) (H : Heap) (locs : List Loc) (ls : Array Slot), P n a i0 i1 i2 i3 H locs ls → (∀ n' : Nat, n' < n → ∀ (a' : α) (i0' i1' i2' i3' : Int) (H' : Heap) (locs' : List Loc) (ls' : Array Slot), P n' a' i0' i1' i2' i3' H' locs' ls' → W p l e R s m args below meth c H' locs' cells slots Q (F0 m pc ls' [])) → W p l e R s m args below meth c H locs cells slots Q (F0 m pc ls [])) (h0 : P n0 a0 x0 x1 x2 x3 H locs ls) : W p l e R s m args below meth c H locs cells slots Q (F0 m pc ls []) := by
  have key : ∀ (n : Nat) (a : α) (i0 i1 i2 i3 : Int) (H : Heap) (locs : List Loc) (ls : Array Slot), P n a i0 i1 i2 i3 H locs ls → W p l e R s m args below meth c H locs cells slots Q (F0 m pc ls []) := by
    intro n
    induction n using Nat.strongRecOn with
    | _ n ih => exact fun a i0 i1 i2 i3 H locs ls h => st n a i0 i1 i2 i3 H locs ls h (fun n' hn => ih n' hn)
  exact key n0 a0 _ _ _ _ H locs ls h0
theorem iz_loopA5 {α : Type} {P : Nat → α → Int → Int → Int → Int → Int → Heap → List Loc → Array Slot → Prop} (n0 : Nat) (a0 : α) {x0 : Int} {x1 : Int} {x2 : Int} {x3 : Int} {x4 : Int} (st : ∀ (n : Nat) (a : α) (i0 i1 i2 i3 i4 : Int) (H : Heap) (locs : List Loc) (ls : Array Slot), P n a i0 i1 i2 i3 i4 H locs ls → (∀ n' : Nat, n' < n → ∀ (a' : α) (i0' i1' i2' i3' i4' : Int) (H' : Heap) (locs' : List Loc) (ls' : Array Slot), P n' a' i0' i1' i2' i3' i4' H' locs' ls' → W p l e R s m args below meth c H' locs' cells slots Q (F0 m pc ls' [])) → W p l e R s m args below meth c H locs cells slots Q (F0 m pc ls [])) (h0 : P n0 a0 x0 x1 x2 x3 x4 H locs ls) : W p l e R s m args below meth c H locs cells slots Q (F0 m pc ls []) := by
  have key : ∀ (n : Nat) (a : α) (i0 i1 i2 i3 i4 : Int) (H : Heap) (locs : List Loc) (ls : Array Slot), P n a i0 i1 i2 i3 i4 H locs ls → W p l e R s m args below meth c H locs cells slots Q (F0 m pc ls []) := by
    intro n
    induction n using Nat.strongRecOn with
    | _ n ih => exact fun a i0 i1 i2 i3 i4 H locs ls h => st n a i0 i1 i2 i3 i4 H locs ls h (fun n' hn => ih n' hn)
  exact key n0 a0 _ _ _ _ _ H locs ls h0
theorem iz_loopA6 {α : Type} {P : Nat → α → Int → Int → Int → Int → Int → Int → Heap → List Loc → Array Slot → Prop} (n0 : Nat) (a0 : α) {x0 : Int} {x1 : Int} {x2 : Int} {x3 : Int} {x4 : Int} {x5 : Int} (st : ∀ (n : Nat) (a : α) (i0 i1 i2 i3 i4 i5 : Int) (H : Heap) (locs : List Loc) (ls : Array Slot), P n a i0 i1 i2 i3 i4 i5 H locs ls → (∀ n' : Nat, n' < n → ∀ (a' : α) (i0' i1' i2' i3' i4' i5' : Int) (H' : Heap) (locs' : List Loc) (ls' : Array Slot), P n' a' i0' i1' i2' i3' i4' i5' H' locs' ls' → W p l e R s m args below meth c H' locs' cells slots Q (F0 m pc ls' [])) → W p l e R s m args below meth c H locs cells slots Q (F0 m pc ls [])) (h0 : P n0 a0 x0 x1 x2 x3 x4 x5 H locs ls) : W p l e R s m args below meth c H locs cells slots Q (F0 m pc ls []) := by
  have key : ∀ (n : Nat) (a : α) (i0 i1 i2 i3 i4 i5 : Int) (H : Heap) (locs : List Loc) (ls : Array Slot), P n a i0 i1 i2 i3 i4 i5 H locs ls → W p l e R s m args below meth c H locs cells slots Q (F0 m pc ls []) := by
    intro n
    induction n using Nat.strongRecOn with
    | _ n ih => exact fun a i0 i1 i2 i3 i4 i5 H locs ls h => st n a i0 i1 i2 i3 i4 i5 H locs ls h (fun n' hn => ih n' hn)
  exact key n0 a0 _ _ _ _ _ _ H locs ls h0
end IZLA
theorem ge1_updb (f : Nat → Int32) {z x w : Int} (hz : 0 ≤ z) (hw : 0 ≤ w) (h1 : (vp_nar .boolean (kz x)).toInt = x) : ge1 (upd f z.toNat (vp_nar .boolean (kz x))) w = if w = z then x else ge1 f w := by
  unfold ge1 upd
  by_cases h : w = z
  · subst h
    rw [if_pos rfl, if_pos rfl, h1]
  · rw [if_neg h, if_neg (by omega)]
/-! contents of the arrays of a parting -/
def cup (fc : Nat → Nat → Int32) (k : Nat) (g : Nat → Int32) : Nat → Nat → Int32 := fun j => if j = k then g else fc j
def frz (D : va_G) (ca : Nat → ClassId) (am : Nat → Nat) (fc : Nat → Nat → Int32) (H : Heap) : Prop := va_at D vwCl (am 3, .inl (ca 21, 320, .inl (fc 3))) H ∧ va_at D vwCl (am 4, .inl (ca 20, 40, .inl (fc 4))) H ∧ va_at D vwCl (am 5, .inl (ca 20, 40, .inl (fc 5))) H ∧ va_at D vwCl (am 10, .inl (ca 21, 240, .inl (fc 10))) H ∧ va_at D vwCl (am 11, .inl (ca 20, 24, .inl (fc 11))) H ∧ va_at D vwCl (am 12, .inl (ca 20, 24, .inl (fc 12))) H ∧ va_at D vwCl (am 13, .inl (ca 20, 24, .inl (fc 13))) H ∧ va_at D vwCl (am 17, .inl (ca 22, 36, .inl (fc 17))) H ∧ va_at D vwCl (am 27, .inl (ca 21, 40, .inl (fc 27))) H ∧ va_at D vwCl (am 29, .inl (ca 20, 1600, .inl (fc 29))) H ∧ va_at D vwCl (am 30, .inl (ca 22, 6560, .inl (fc 30))) H ∧ va_at D vwCl (am 32, .inl (ca 20, 52480, .inl (fc 32))) H ∧ va_at D vwCl (am 33, .inl (ca 20, 6560, .inl (fc 33))) H ∧ va_at D vwCl (am 44, .inl (ca 20, 40, .inl (fc 44))) H
def frk (X : kGh) (am : Nat → Nat) (fc : Nat → Nat → Int32) : Prop := ok20 X (am 4) 40 (0) (8) (fc 4) ∧ ok20 X (am 5) 40 (0) (5) (fc 5) ∧ ok20 X (am 11) 24 (0) (3) (fc 11) ∧ ok20 X (am 12) 24 (0) (3) (fc 12) ∧ ok20 X (am 13) 24 (0) (4) (fc 13) ∧ ok20 X (am 29) 1600 (-2147483648) (2147483647) (fc 29) ∧ ok20 X (am 32) 52480 (-2147483648) (2147483647) (fc 32) ∧ ok20 X (am 33) 6560 (0) (8) (fc 33) ∧ ok20 X (am 44) 40 (0) (8) (fc 44)
def bh (fc : Nat → Nat → Int32) (ls f x y t : Int) : Prop := t + y - x ≤ ls ∧ ∀ k : Int, x ≤ k → k < y → ge1 (fc 3) (8 * f + k) = ge1 (fc 27) (t + k - x)
def ds (fc : Nat → Nat → Int32) (f b t q : Int) : Int := if q < 0 then t + ge1 (fc 4) f - b else t + (ge1 (fc 4) f - ge1 (fc 11) q) - b + ge1 (fc 13) q
def ps (fc : Nat → Nat → Int32) (ls f b t q : Int) : Prop := (q < 0 → bh fc ls f b (ge1 (fc 4) f) t) ∧ (0 ≤ q → b + ge1 (fc 11) q < ge1 (fc 4) f ∧ bh fc ls f b (ge1 (fc 4) f - ge1 (fc 11) q) t ∧ t + (ge1 (fc 4) f - ge1 (fc 11) q) - b + ge1 (fc 13) q ≤ ls ∧ ∀ k : Int, 0 ≤ k → k < ge1 (fc 13) q → ge1 (fc 10) (10 * q + ge1 (fc 11) q + ge1 (fc 12) q + k) = ge1 (fc 27) (t + (ge1 (fc 4) f - ge1 (fc 11) q) - b + k))
def btb (x : Int32) (q : Int) : Prop := (x >>> (kz q &&& 31)) &&& kz 1 = kz 1
def bw (fc : Nat → Nat → Int32) (ct f g q : Int) : Prop := ¬ (¬ ct = 0 ∧ ¬ ge1 (fc 17) (6 * ge1 (fc 5) f + ge1 (fc 5) g) = 0) ∧ (q < 0 → ge1 (fc 29) (40 * f + g) = 0) ∧ (0 ≤ q → btb (kz (ge1 (fc 29) (40 * f + g))) q ∧ ge1 (fc 12) q < ge1 (fc 4) g)
def nb (fc : Nat → Nat → Int32) (q : Int) : Int := if q < 0 then 0 else ge1 (fc 12) q
def pl (f b t : Int) : Int := (4 * f + b) * 41 + t
/-- where a step leads: farther on, and not beyond the line -/
theorem ds_rng {X : kGh} {am : Nat → Nat} {fc : Nat → Nat → Int32} {ls f b t q : Int} (hk : frk X am fc) (hf : 0 ≤ f ∧ f ≤ 39) (hb : 0 ≤ b ∧ b < ge1 (fc 4) f) (ht : 0 ≤ t) (hq : -1 ≤ q ∧ q ≤ 23) (h : ps fc ls f b t q) : t < ds fc f b t q ∧ ds fc f b t q ≤ ls := by
  obtain ⟨k4, k5, k11, k12, k13, -⟩ := hk
  have h4 := k4 f (by omega)
  unfold ds
  by_cases hn : q < 0
  · rw [if_pos hn]
    have h1 := (h.1 hn).1
    omega
  · rw [if_neg hn]
    obtain ⟨h1, h2, h3, -⟩ := h.2 (by omega)
    have h11 := k11 q (by omega)
    have h13 := k13 q (by omega)
    omega
