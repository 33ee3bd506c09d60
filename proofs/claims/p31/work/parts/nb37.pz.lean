def RT (m : Mem) (δ : Nat → Nat) : Prop := ∀ a, a < 288 → m 99 a = nI (mF δ a)
