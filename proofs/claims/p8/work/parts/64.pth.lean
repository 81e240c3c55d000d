/-! the paths of a parter -/
theorem je_inj {D : va_G} {ca : Nat → ClassId} {H : Heap} {a n kd : Nat} {f g : Nat → Option Nat} (h1 : va_at D vwCl (a, je_q ca n kd f) H) (h2 : va_at D vwCl (a, je_q ca n kd g) H) : ∀ j : Nat, j < n → f j = g j := by
  have e1 : H[a]? = some (arrV (ca kd) n (fun j => va_rf (f j))) := h1
  have e2 : H[a]? = some (arrV (ca kd) n (fun j => va_rf (g j))) := h2
  intro j hj
  have e3 := Option.some.inj (e1.symm.trans e2)
  have r1 := arrV_read (ca kd) (fun j => va_rf (f j)) hj
  have r2 := arrV_read (ca kd) (fun j => va_rf (g j)) hj
  rw [e3, r2] at r1
  have r3 := Option.some.inj r1
  cases hf : f j with
  | none => cases hg : g j with
    | none => rfl
    | some y => rw [hf, hg] at r3; cases r3
  | some x => cases hg : g j with
    | none => rw [hf, hg] at r3; cases r3
    | some y => rw [hf, hg] at r3; cases r3; rfl
section KQ
variable {D : va_G} {ca : Nat → ClassId} {A : Nat → Prop} {X : jG} {H : Heap} {a cd n : Nat} {lo hi : Int} {f : Nat → Option Nat}
theorem kq24 (h : jv D ca A X H) (hg : X.1 a = (cd, 24, n, lo, hi)) (hc : va_at D vwCl (a, je_q ca n 24 f) H) : ∀ j : Nat, j < n → (∀ b : Nat, f j = some b → X.1 b = (2, 30, 0, 0, 0)) ∧ (j < X.2.1 a → f j ≠ none) := by
  obtain ⟨g, c, k⟩ := jv_q24 h hg
  intro j hj
  rw [je_inj hc c j hj]
  exact k j hj
theorem kq25 (h : jv D ca A X H) (hg : X.1 a = (cd, 25, n, lo, hi)) (hc : va_at D vwCl (a, je_q ca n 25 f) H) : ∀ j : Nat, j < n → ∀ b : Nat, f j = some b → ∃ i : Nat, X.1 b = (7, 30, i, 0, 0) := by
  obtain ⟨g, c, k⟩ := jv_q25 h hg
  intro j hj
  rw [je_inj hc c j hj]
  exact k j hj
end KQ
theorem has_bit {v k z1 z2 : Int} (hk : 0 ≤ k ∧ k ≤ 31) (h1 : kz v >>> (kz k &&& 31) = kz z1) (h2 : kz z1 &&& kz 1 = kz z2) (hz : z2 = 1) : bt (kz v) k.toNat = true := by
  obtain ⟨n, rfl⟩ := Int.eq_ofNat_of_zero_le hk.1
  have e : bt (kz z1 &&& kz 1) 0 = true := by
    rw [h2, hz]
    decide
  rw [b_and] at e
  have e2 : bt (kz z1) 0 = true := by
    cases hb : bt (kz z1) 0
    · rw [hb] at e
      cases e
    · rfl
  rw [← h1, kz_nI, b_sshr n (by omega) _ (by omega), if_pos (by omega)] at e2
  exact e2
theorem and_bit {a b c z1 z2 : Int} {i : Nat} (h1 : kz a &&& kz b = kz z1) (h2 : kz z1 &&& kz c = kz z2) (h : bt (kz z2) i = true) : bt (kz b) i = true := by
  rw [← h2, b_and, ← h1, b_and] at h
  cases hb : bt (kz b) i
  · rw [hb] at h
    simp at h
  · rfl
/-- what stands last in a row of so many -/
def lst (f : Nat → Option Nat) (sz : Int) : Option Nat := if 0 ≤ sz - 1 ∧ sz - 1 < sz then f (Int.toNat (sz - 1)) else none
def cutv (X : jG) : Option Nat → Int
  | none => 0
  | some b => X.2.2.1 (X.1 b).2.2.1
def adjv (X : jG) (b : Int) : Int := if 2 ≤ b ∧ b - 2 < (X.2.2.2 : Int) then X.2.2.1 (100 + (b - 2).toNat) else 0
/-- where a step behind a form may lead to -/
def pG (X : jG) (tf : Nat → Option Nat) (pl : Int) (lf : Option Nat) (ct : Int) (l : Int) : Prop := l / 64 = 0 ∨ ((∀ b : Nat, lf = some b → (0 ≤ pl + (X.2.1 b : Int) - ct ∧ pl + (X.2.1 b : Int) - ct ≤ 60) ∧ 0 ≤ pl + (X.2.1 b : Int) - ct + adjv X (l / 64) ∧ pl + (X.2.1 b : Int) - ct + adjv X (l / 64) ≤ 60) ∧ (2 ≤ l / 64 → l / 64 - 2 < (X.2.2.2 : Int) → ∀ a : Nat, (l % 64).toNat < 40 → tf (l % 64).toNat = some a → X.2.2.1 (l / 64 - 2).toNat ≤ (X.2.1 a : Int)))
/-- a path: its cells, its rank, where its steps may lead to -/
def pok (D : va_G) (ca : Nat → ClassId) (X : jG) (tf : Nat → Option Nat) (id : Nat) (rk : Int) (Gp : Int → Prop) (H : Heap) : Prop := ∃ (b ch fo ru : Nat) (co sp pl en sz : Int) (ff fr : Nat → Option Nat), X.1 b = (5, 30, id, 0, 0) ∧ X.1 ch = (0, 30, id, 0, 0) ∧ X.1 fo = (210, 24, 40, 2, (id : Int)) ∧ X.1 ru = (211, 25, 40, 7, (id : Int)) ∧ va_at D vwCl (b, .inr (5, [.ref ch, .int (kz co), .int (kz sp), .int (kz pl), .int (kz en), .int (kz rk)])) H ∧ va_at D vwCl (ch, .inr (0, [.ref fo, .ref ru, .int (kz sz)])) H ∧ va_at D vwCl (fo, je_q ca 40 24 ff) H ∧ va_at D vwCl (ru, je_q ca 40 25 fr) H ∧ (-2147483648 ≤ co ∧ co ≤ 2147483647) ∧ (-2147483648 ≤ sp ∧ sp ≤ 2147483647) ∧ (0 ≤ pl ∧ pl ≤ 60) ∧ (0 ≤ en ∧ en ≤ 1) ∧ (0 ≤ rk ∧ rk ≤ 7) ∧ (0 ≤ sz ∧ sz ≤ 40) ∧ sz ≤ (X.2.1 fo : Int) ∧ (∀ a : Nat, lst ff sz = some a → X.1 a = (2, 30, 0, 0, 0) ∧ cutv X (lst fr sz) ≤ (X.2.1 a : Int)) ∧ Gp = pG X tf pl (lst ff sz) (cutv X (lst fr sz))
theorem pG_up {X Y : jG} {tf : Nat → Option Nat} (h : jup X Y) (ht : ∀ j : Nat, j < 40 → ∀ b : Nat, tf j = some b → X.1 b = (2, 30, 0, 0, 0)) {pl ct : Int} {lf : Option Nat} (hl : ∀ a : Nat, lf = some a → X.1 a = (2, 30, 0, 0, 0)) : pG X tf pl lf ct = pG Y tf pl lf ct := by
  have e : ∀ a : Nat, X.1 a = (2, 30, 0, 0, 0) → Y.2.1 a = X.2.1 a := fun a ha => up_n h ha (show (30 : Nat) ≠ 24 by decide)
  have ea : ∀ b : Int, adjv Y b = adjv X b := fun b => by
    unfold adjv
    rw [h.2.1]
  funext l
  unfold pG
  apply propext
  constructor
  · rintro (h1 | ⟨h1, h2⟩)
    · exact Or.inl h1
    · refine Or.inr ⟨fun b hb => ?_, fun q1 q2 a q3 q4 => ?_⟩
      · rw [e b (hl b hb), ea]
        exact h1 b hb
      · rw [h.2.1] at q2 ⊢
        rw [e a (ht _ q3 a q4)]
        exact h2 q1 q2 a q3 q4
  · rintro (h1 | ⟨h1, h2⟩)
    · exact Or.inl h1
    · refine Or.inr ⟨fun b hb => ?_, fun q1 q2 a q3 q4 => ?_⟩
      · have := h1 b hb
        rw [e b (hl b hb), ea] at this
        exact this
      · have := h2 q1 (by rw [h.2.1]; exact q2) a q3 q4
        rw [h.2.1, e a (ht _ q3 a q4)] at this
        exact this
theorem cutv_up {X Y : jG} (h : jup X Y) (r : Option Nat) : cutv Y r = cutv X r := by
  cases r with
  | none => rfl
  | some b =>
    show Y.2.2.1 (Y.1 b).2.2.1 = X.2.2.1 (X.1 b).2.2.1
    rw [h.1, h.2.1]
theorem pok_up {D : va_G} {ca : Nat → ClassId} {X Y : jG} {tf : Nat → Option Nat} {id : Nat} {rk : Int} {Gp : Int → Prop} {H : Heap} (h : jup X Y) (ht : ∀ j : Nat, j < 40 → ∀ b : Nat, tf j = some b → X.1 b = (2, 30, 0, 0, 0)) (hp : pok D ca X tf id rk Gp H) : pok D ca Y tf id rk Gp H := by
  obtain ⟨b, ch, fo, ru, co, sp, pl, en, sz, ff, fr, g1, g2, g3, g4, c1, c2, c3, c4, r1, r2, r3, r4, r5, r6, r7, r8, r9⟩ := hp
  refine ⟨b, ch, fo, ru, co, sp, pl, en, sz, ff, fr, up_t h g1, up_t h g2, up_t h g3, up_t h g4, c1, c2, c3, c4, r1, r2, r3, r4, r5, r6, ?_, fun a ha => ?_, ?_⟩
  · have := (h.2.2 fo).1
    omega
  · obtain ⟨q1, q2⟩ := r8 a ha
    refine ⟨up_t h q1, ?_⟩
    rw [cutv_up h, up_n h q1 (show (30 : Nat) ≠ 24 by decide)]
    exact q2
  · rw [r9, cutv_up h]
    exact pG_up h ht (fun a ha => (r8 a ha).1)
theorem pok_keep {D : va_G} {ca : Nat → ClassId} {X : jG} {tf : Nat → Option Nat} {id : Nat} {rk : Int} {Gp : Int → Prop} {H H1 : Heap} (hp : pok D ca X tf id rk Gp H) (oq : ∀ q : Nat, X.1 q ∈ Lp id → H1[q]? = H[q]?) : pok D ca X tf id rk Gp H1 := by
  obtain ⟨b, ch, fo, ru, co, sp, pl, en, sz, ff, fr, g1, g2, g3, g4, c1, c2, c3, c4, r⟩ := hp
  exact ⟨b, ch, fo, ru, co, sp, pl, en, sz, ff, fr, g1, g2, g3, g4, c1.kept (oq b (by rw [g1]; simp [Lp])), c2.kept (oq ch (by rw [g2]; simp [Lp, Lc])), c3.kept (oq fo (by rw [g3]; simp [Lp, Lc])), c4.kept (oq ru (by rw [g4]; simp [Lp, Lc])), r⟩
/-- the keys that a path's steps have -/
def PS (Q G : Int → Prop) (rk B m : Int) : Prop := Q m ∨ (m / 2048 = rk ∧ G (m % 2048) ∧ m % 2048 < B)
theorem PS_mono {Q G : Int → Prop} {rk B C m : Int} (h : PS Q G rk B m) (hc : B ≤ C) : PS Q G rk C m := by
  rcases h with h | h
  · exact Or.inl h
  · exact Or.inr ⟨h.1, h.2.1, by omega⟩
/-- of the first k paths -/
def PL (rk : Nat → Int) (G : Nat → Int → Prop) (k m : Int) : Prop := ∃ j : Nat, (j : Int) < k ∧ m / 2048 = rk j ∧ G j (m % 2048)
theorem PL_in {rk : Nat → Int} {G : Nat → Int → Prop} {k B m : Int} (hk : 0 ≤ k) (h : PS (PL rk G k) (G k.toNat) (rk k.toNat) B m) : PL rk G (k + 1) m := by
  rcases h with ⟨j, h1, h2, h3⟩ | h
  · exact ⟨j, by omega, h2, h3⟩
  · exact ⟨k.toNat, by omega, h.1, h.2.1⟩
theorem PS_ne {Q G : Int → Prop} {rk B m l m0 : Int} (h : PS Q G rk B m) (hQ : ∀ m : Int, Q m → m / 2048 ≠ rk) (hl : B ≤ l) (h0 : 0 ≤ l ∧ l < 2048) (hm : m0 = rk * 2048 + l) : m ≠ m0 := by
  intro e
  rcases h with h | h
  · have := hQ m h
    omega
  · omega
theorem PS_new {Q G : Int → Prop} {rk l m0 : Int} (h0 : 0 ≤ l ∧ l < 2048) (hm : m0 = rk * 2048 + l) (hG : G l) : PS Q G rk (l + 1) m0 := by
  refine Or.inr ⟨by omega, ?_, by omega⟩
  have e : m0 % 2048 = l := by omega
  rw [e]
  exact hG
theorem pG_0 (X : jG) (tf : Nat → Option Nat) (pl : Int) (lf : Option Nat) (ct : Int) : pG X tf pl lf ct 0 := Or.inl (by decide)
theorem pG_plain {X : jG} {tf : Nat → Option Nat} {pl ct k : Int} {lf : Option Nat} (hk : 0 ≤ k ∧ k < 64) (h : ∀ b : Nat, lf = some b → 0 ≤ pl + (X.2.1 b : Int) - ct ∧ pl + (X.2.1 b : Int) - ct ≤ 60) : pG X tf pl lf ct (1 * 64 + k) := by
  have e : (1 * 64 + k) / 64 = 1 := by omega
  have ea : adjv X 1 = 0 := if_neg (by omega)
  refine Or.inr ⟨fun b hb => ?_, fun q => ?_⟩
  · rw [e, ea]
    have := h b hb
    omega
  · rw [e] at q
    omega
theorem pG_rule {X : jG} {tf : Nat → Option Nat} {pl ct n k : Int} {lf : Option Nat} (hn : 0 ≤ n ∧ n < (X.2.2.2 : Int)) (hk : 0 ≤ k ∧ k < 64) (h : ∀ b : Nat, lf = some b → (0 ≤ pl + (X.2.1 b : Int) - ct ∧ pl + (X.2.1 b : Int) - ct ≤ 60) ∧ 0 ≤ pl + (X.2.1 b : Int) - ct + X.2.2.1 (100 + n.toNat) ∧ pl + (X.2.1 b : Int) - ct + X.2.2.1 (100 + n.toNat) ≤ 60) (h2 : ∀ a : Nat, tf k.toNat = some a → X.2.2.1 n.toNat ≤ (X.2.1 a : Int)) : pG X tf pl lf ct ((2 + n) * 64 + k) := by
  have e : ((2 + n) * 64 + k) / 64 = 2 + n := by omega
  have e2 : ((2 + n) * 64 + k) % 64 = k := by omega
  have e3 : 2 + n - 2 = n := by omega
  have ea : adjv X (2 + n) = X.2.2.1 (100 + n.toNat) := by
    unfold adjv
    rw [e3, if_pos (by omega)]
  refine Or.inr ⟨fun b hb => ?_, fun q1 q2 a q3 q4 => ?_⟩
  · rw [e, ea]
    exact h b hb
  · rw [e2] at q4
    rw [e, e3]
    exact h2 a q4
theorem kcnt_s (f : Nat → Int32) (m k : Int) (hk : 0 ≤ k) : kcnt f m (k + 1).toNat = kcnt f m k.toNat + (if ge1 f k % 16384 < m then 1 else 0) := by
  obtain ⟨n, rfl⟩ := Int.eq_ofNat_of_zero_le hk
  rfl
