theorem ok20_full {X : kGh} {a n : Nat} (f : Nat → Int32) (h0 : X.2 a = 0 := by rfl) : ok20 X a n (-2147483648) 2147483647 f := fun z hz => ⟨kz_lo _, kz_hi _, fun q => by rw [h0] at q; omega⟩
