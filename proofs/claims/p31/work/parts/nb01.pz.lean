def Ren (φ : Nat → Nat) (n n' : Nat) : Prop := (∀ a b, a < b → b < n → φ a < φ b) ∧ ∀ a, a < n → φ a < n'
theorem Ren.tri {φ : Nat → Nat} {n n' a b : Nat} (h : Ren φ n n') (ha : a < n) (hb : b < n) : (a < b ∧ φ a < φ b) ∨ (a = b ∧ φ a = φ b) ∨ (b < a ∧ φ b < φ a) := by
  rcases Nat.lt_trichotomy a b with h1 | h1 | h1
  · exact Or.inl ⟨h1, h.1 a b h1 hb⟩
  · exact Or.inr (Or.inl ⟨h1, by rw [h1]⟩)
  · exact Or.inr (Or.inr ⟨h1, h.1 b a h1 ha⟩)
theorem Ren.inj {φ : Nat → Nat} {n n' a b : Nat} (h : Ren φ n n') (ha : a < n) (hb : b < n) (e : φ a = φ b) : a = b := by
  rcases h.tri ha hb with h1 | h1 | h1 <;> omega
