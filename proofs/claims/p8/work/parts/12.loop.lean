section IZL
variable {p : Program} {l : Launch} {e : Env} {R : Room} {s : State} {m : MethodId} {args : Array Value} {below : List Frame} {meth : Method} {c : Code} {H : Heap} {locs : List Loc} {cells slots : Nat} {Q : State → Prop} {pc : Nat} {ls : Array Slot}
theorem iz_loop0 {P : Nat → Heap → List Loc → Array Slot → Prop} (n0 : Nat) (st : ∀ (n : Nat) (H : Heap) (locs : List Loc) (ls : Array Slot), P n H locs ls → (∀ n' : Nat, n' < n → ∀ (H' : Heap) (locs' : List Loc) (ls' : Array Slot), P n' H' locs' ls' → W p l e R s m args below meth c H' locs' cells slots Q (F0 m pc ls' [])) → W p l e R s m args below meth c H locs cells slots Q (F0 m pc ls [])) (h0 : P n0 H locs ls) : W p l e R s m args below meth c H locs cells slots Q (F0 m pc ls []) := by
  have key : ∀ (n : Nat) (H : Heap) (locs : List Loc) (ls : Array Slot), P n H locs ls → W p l e R s m args below meth c H locs cells slots Q (F0 m pc ls []) := by
    intro n
    induction n using Nat.strongRecOn with
    | _ n ih => exact fun H locs ls h => st n H locs ls h (fun n' hn => ih n' hn)
  exact key n0  H locs ls h0
theorem iz_loopS0 {P : Nat → Array Slot → Prop} (n0 : Nat) (st : ∀ (n : Nat) (ls : Array Slot), P n ls → (∀ n' : Nat, n' < n → ∀ (ls' : Array Slot), P n' ls' → W p l e R s m args below meth c H locs cells slots Q (F0 m pc ls' [])) → W p l e R s m args below meth c H locs cells slots Q (F0 m pc ls [])) (h0 : P n0 ls) : W p l e R s m args below meth c H locs cells slots Q (F0 m pc ls []) := by
  have key : ∀ (n : Nat) (ls : Array Slot), P n ls → W p l e R s m args below meth c H locs cells slots Q (F0 m pc ls []) := by
    intro n
    induction n using Nat.strongRecOn with
    | _ n ih => exact fun ls h => st n ls h (fun n' hn => ih n' hn)
  exact key n0  ls h0
theorem iz_loop1 {P : Nat → Int → Heap → List Loc → Array Slot → Prop} (n0 : Nat) {x0 : Int} (st : ∀ (n : Nat) (i0 : Int) (H : Heap) (locs : List Loc) (ls : Array Slot), P n i0 H locs ls → (∀ n' : Nat, n' < n → ∀ (i0' : Int) (H' : Heap) (locs' : List Loc) (ls' : Array Slot), P n' i0' H' locs' ls' → W p l e R s m args below meth c H' locs' cells slots Q (F0 m pc ls' [])) → W p l e R s m args below meth c H locs cells slots Q (F0 m pc ls [])) (h0 : P n0 x0 H locs ls) : W p l e R s m args below meth c H locs cells slots Q (F0 m pc ls []) := by
  have key : ∀ (n : Nat) (i0 : Int) (H : Heap) (locs : List Loc) (ls : Array Slot), P n i0 H locs ls → W p l e R s m args below meth c H locs cells slots Q (F0 m pc ls []) := by
    intro n
    induction n using Nat.strongRecOn with
    | _ n ih => exact fun i0 H locs ls h => st n i0 H locs ls h (fun n' hn => ih n' hn)
  exact key n0 _ H locs ls h0
theorem iz_loopS1 {P : Nat → Int → Array Slot → Prop} (n0 : Nat) {x0 : Int} (st : ∀ (n : Nat) (i0 : Int) (ls : Array Slot), P n i0 ls → (∀ n' : Nat, n' < n → ∀ (i0' : Int) (ls' : Array Slot), P n' i0' ls' → W p l e R s m args below meth c H locs cells slots Q (F0 m pc ls' [])) → W p l e R s m args below meth c H locs cells slots Q (F0 m pc ls [])) (h0 : P n0 x0 ls) : W p l e R s m args below meth c H locs cells slots Q (F0 m pc ls []) := by
  have key : ∀ (n : Nat) (i0 : Int) (ls : Array Slot), P n i0 ls → W p l e R s m args below meth c H locs cells slots Q (F0 m pc ls []) := by
    intro n
    induction n using Nat.strongRecOn with
    | _ n ih => exact fun i0 ls h => st n i0 ls h (fun n' hn => ih n' hn)
  exact key n0 _ ls h0
theorem iz_loop2 {P : Nat → Int → Int → Heap → List Loc → Array Slot → Prop} (n0 : Nat) {x0 : Int} {x1 : Int} (st : ∀ (n : Nat) (i0 i1 : Int) (H : Heap) (locs : List Loc) (ls : Array Slot), P n i0 i1 H locs ls → (∀ n' : Nat, n' < n → ∀ (i0' i1' : Int) (H' : Heap) (locs' : List Loc) (ls' : Array Slot), P n' i0' i1' H' locs' ls' → W p l e R s m args below meth c H' locs' cells slots Q (F0 m pc ls' [])) → W p l e R s m args below meth c H locs cells slots Q (F0 m pc ls [])) (h0 : P n0 x0 x1 H locs ls) : W p l e R s m args below meth c H locs cells slots Q (F0 m pc ls []) := by
  have key : ∀ (n : Nat) (i0 i1 : Int) (H : Heap) (locs : List Loc) (ls : Array Slot), P n i0 i1 H locs ls → W p l e R s m args below meth c H locs cells slots Q (F0 m pc ls []) := by
    intro n
    induction n using Nat.strongRecOn with
    | _ n ih => exact fun i0 i1 H locs ls h => st n i0 i1 H locs ls h (fun n' hn => ih n' hn)
  exact key n0 _ _ H locs ls h0
theorem iz_loopS2 {P : Nat → Int → Int → Array Slot → Prop} (n0 : Nat) {x0 : Int} {x1 : Int} (st : ∀ (n : Nat) (i0 i1 : Int) (ls : Array Slot), P n i0 i1 ls → (∀ n' : Nat, n' < n → ∀ (i0' i1' : Int) (ls' : Array Slot), P n' i0' i1' ls' → W p l e R s m args below meth c H locs cells slots Q (F0 m pc ls' [])) → W p l e R s m args below meth c H locs cells slots Q (F0 m pc ls [])) (h0 : P n0 x0 x1 ls) : W p l e R s m args below meth c H locs cells slots Q (F0 m pc ls []) := by
  have key : ∀ (n : Nat) (i0 i1 : Int) (ls : Array Slot), P n i0 i1 ls → W p l e R s m args below meth c H locs cells slots Q (F0 m pc ls []) := by
    intro n
    induction n using Nat.strongRecOn with
    | _ n ih => exact fun i0 i1 ls h => st n i0 i1 ls h (fun n' hn => ih n' hn)
  exact key n0 _ _ ls h0
theorem iz_loop3 {P : Nat → Int → Int → Int → Heap → List Loc → Array Slot → Prop} (n0 : Nat) {x0 : Int} {x1 : Int} {x2 : Int} (st : ∀ (n : Nat) (i0 i1 i2 : Int) (H : Heap) (locs : List Loc) (ls : Array Slot), P n i0 i1 i2 H locs ls → (∀ n' : Nat, n' < n → ∀ (i0' i1' i2' : Int) (H' : Heap) (locs' : List Loc) (ls' : Array Slot), P n' i0' i1' i2' H' locs' ls' → W p l e R s m args below meth c H' locs' cells slots Q (F0 m pc ls' [])) → W p l e R s m args below meth c H locs cells slots Q (F0 m pc ls [])) (h0 : P n0 x0 x1 x2 H locs ls) : W p l e R s m args below meth c H locs cells slots Q (F0 m pc ls []) := by
  have key : ∀ (n : Nat) (i0 i1 i2 : Int) (H : Heap) (locs : List Loc) (ls : Array Slot), P n i0 i1 i2 H locs ls → W p l e R s m args below meth c H locs cells slots Q (F0 m pc ls []) := by
    intro n
    induction n using Nat.strongRecOn with
    | _ n ih => exact fun i0 i1 i2 H locs ls h => st n i0 i1 i2 H locs ls h (fun n' hn => ih n' hn)
  exact key n0 _ _ _ H locs ls h0
theorem iz_loopS3 {P : Nat → Int → Int → Int → Array Slot → Prop} (n0 : Nat) {x0 : Int} {x1 : Int} {x2 : Int} (st : ∀ (n : Nat) (i0 i1 i2 : Int) (ls : Array Slot), P n i0 i1 i2 ls → (∀ n' : Nat, n' < n → ∀ (i0' i1' i2' : Int) (ls' : Array Slot), P n' i0' i1' i2' ls' → W p l e R s m args below meth c H locs cells slots Q (F0 m pc ls' [])) → W p l e R s m args below meth c H locs cells slots Q (F0 m pc ls [])) (h0 : P n0 x0 x1 x2 ls) : W p l e R s m args below meth c H locs cells slots Q (F0 m pc ls []) := by
  have key : ∀ (n : Nat) (i0 i1 i2 : Int) (ls : Array Slot), P n i0 i1 i2 ls → W p l e R s m args below meth c H locs cells slots Q (F0 m pc ls []) := by
    intro n
    induction n using Nat.strongRecOn with
    | _ n ih => exact fun i0 i1 i2 ls h => st n i0 i1 i2 ls h (fun n' hn => ih n' hn)
  exact key n0 _ _ _ ls h0
theorem iz_loop4 {P : Nat → Int → Int → Int → Int → Heap → List Loc → Array Slot → Prop} (n0 : Nat) {x0 : Int} {x1 : Int} {x2 : Int} {x3 : Int} (st : ∀ (n : Nat) (i0 i1 i2 i3 : Int) (H : Heap) (locs : List Loc) (ls : Array Slot), P n i0 i1 i2 i3 H locs ls → (∀ n' : Nat, n' < n → ∀ (i0' i1' i2' i3' : Int) (H' : Heap) (locs' : List Loc) (ls' : Array Slot), P n' i0' i1' i2' i3' H' locs' ls' → W p l e R s m args below meth c H' locs' cells slots Q (F0 m pc ls' [])) → W p l e R s m args below meth c H locs cells slots Q (F0 m pc ls [])) (h0 : P n0 x0 x1 x2 x3 H locs ls) : W p l e R s m args below meth c H locs cells slots Q (F0 m pc ls []) := by
  have key : ∀ (n : Nat) (i0 i1 i2 i3 : Int) (H : Heap) (locs : List Loc) (ls : Array Slot), P n i0 i1 i2 i3 H locs ls → W p l e R s m args below meth c H locs cells slots Q (F0 m pc ls []) := by
    intro n
    induction n using Nat.strongRecOn with
    | _ n ih => exact fun i0 i1 i2 i3 H locs ls h => st n i0 i1 i2 i3 H locs ls h (fun n' hn => ih n' hn)
  exact key n0 _ _ _ _ H locs ls h0
theorem iz_loopS4 {P : Nat → Int → Int → Int → Int → Array Slot → Prop} (n0 : Nat) {x0 : Int} {x1 : Int} {x2 : Int} {x3 : Int} (st : ∀ (n : Nat) (i0 i1 i2 i3 : Int) (ls : Array Slot), P n i0 i1 i2 i3 ls → (∀ n' : Nat, n' < n → ∀ (i0' i1' i2' i3' : Int) (ls' : Array Slot), P n' i0' i1' i2' i3' ls' → W p l e R s m args below meth c H locs cells slots Q (F0 m pc ls' [])) → W p l e R s m args below meth c H locs cells slots Q (F0 m pc ls [])) (h0 : P n0 x0 x1 x2 x3 ls) : W p l e R s m args below meth c H locs cells slots Q (F0 m pc ls []) := by
  have key : ∀ (n : Nat) (i0 i1 i2 i3 : Int) (ls : Array Slot), P n i0 i1 i2 i3 ls → W p l e R s m args below meth c H locs cells slots Q (F0 m pc ls []) := by
    intro n
    induction n using Nat.strongRecOn with
    | _ n ih => exact fun i0 i1 i2 i3 ls h => st n i0 i1 i2 i3 ls h (fun n' hn => ih n' hn)
  exact key n0 _ _ _ _ ls h0
theorem iz_loop5 {P : Nat → Int → Int → Int → Int → Int → Heap → List Loc → Array Slot → Prop} (n0 : Nat) {x0 : Int} {x1 : Int} {x2 : Int} {x3 : Int} {x4 : Int} (st : ∀ (n : Nat) (i0 i1 i2 i3 i4 : Int) (H : Heap) (locs : List Loc) (ls : Array Slot), P n i0 i1 i2 i3 i4 H locs ls → (∀ n' : Nat, n' < n → ∀ (i0' i1' i2' i3' i4' : Int) (H' : Heap) (locs' : List Loc) (ls' : Array Slot), P n' i0' i1' i2' i3' i4' H' locs' ls' → W p l e R s m args below meth c H' locs' cells slots Q (F0 m pc ls' [])) → W p l e R s m args below meth c H locs cells slots Q (F0 m pc ls [])) (h0 : P n0 x0 x1 x2 x3 x4 H locs ls) : W p l e R s m args below meth c H locs cells slots Q (F0 m pc ls []) := by
  have key : ∀ (n : Nat) (i0 i1 i2 i3 i4 : Int) (H : Heap) (locs : List Loc) (ls : Array Slot), P n i0 i1 i2 i3 i4 H locs ls → W p l e R s m args below meth c H locs cells slots Q (F0 m pc ls []) := by
    intro n
    induction n using Nat.strongRecOn with
    | _ n ih => exact fun i0 i1 i2 i3 i4 H locs ls h => st n i0 i1 i2 i3 i4 H locs ls h (fun n' hn => ih n' hn)
  exact key n0 _ _ _ _ _ H locs ls h0
theorem iz_loopS5 {P : Nat → Int → Int → Int → Int → Int → Array Slot → Prop} (n0 : Nat) {x0 : Int} {x1 : Int} {x2 : Int} {x3 : Int} {x4 : Int} (st : ∀ (n : Nat) (i0 i1 i2 i3 i4 : Int) (ls : Array Slot), P n i0 i1 i2 i3 i4 ls → (∀ n' : Nat, n' < n → ∀ (i0' i1' i2' i3' i4' : Int) (ls' : Array Slot), P n' i0' i1' i2' i3' i4' ls' → W p l e R s m args below meth c H locs cells slots Q (F0 m pc ls' [])) → W p l e R s m args below meth c H locs cells slots Q (F0 m pc ls [])) (h0 : P n0 x0 x1 x2 x3 x4 ls) : W p l e R s m args below meth c H locs cells slots Q (F0 m pc ls []) := by
  have key : ∀ (n : Nat) (i0 i1 i2 i3 i4 : Int) (ls : Array Slot), P n i0 i1 i2 i3 i4 ls → W p l e R s m args below meth c H locs cells slots Q (F0 m pc ls []) := by
    intro n
    induction n using Nat.strongRecOn with
    | _ n ih => exact fun i0 i1 i2 i3 i4 ls h => st n i0 i1 i2 i3 i4 ls h (fun n' hn => ih n' hn)
  exact key n0 _ _ _ _ _ ls h0
end IZL
theorem lc0 {x : Int64} {z : Int} (h : lg_cmp x 0 = kz z) (hz : ¬ z = 0 ∧ -2147483648 ≤ z ∧ z ≤ 2147483647) : ¬ x = 0 := by
  intro e
  rw [e, show lg_cmp (0 : Int64) 0 = kz 0 by decide, kz_eq ⟨by omega, by omega, by omega, by omega⟩] at h
  omega
def bZ (r : Int32) (P : Prop) : Prop := (r = kz 1 ∧ P) ∨ (r = kz 0 ∧ ¬ P)
theorem ks_4 (x : Int) (h : -2147483648 ≤ x ∧ x ≤ 2147483647) : (x < 0 ∨ 3 < x) ∨ x = 0 ∨ x = 1 ∨ x = 2 ∨ x = 3 := by omega
theorem ks_5 (x : Int) (h : -2147483648 ≤ x ∧ x ≤ 2147483647) : (x < 0 ∨ 4 < x) ∨ x = 0 ∨ x = 1 ∨ x = 2 ∨ x = 3 ∨ x = 4 := by omega
theorem ks_8 (x : Int) (h : -2147483648 ≤ x ∧ x ≤ 2147483647) : (x < 0 ∨ 7 < x) ∨ x = 0 ∨ x = 1 ∨ x = 2 ∨ x = 3 ∨ x = 4 ∨ x = 5 ∨ x = 6 ∨ x = 7 := by omega
