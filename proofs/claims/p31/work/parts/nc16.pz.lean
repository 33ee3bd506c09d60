def EX {α : Type} (S : List Nat) (o : Option ((α ⊕ Nat) × Mem)) : Prop := ∀ x m, o = some (.inr x, m) → x ∈ S
theorem EX.mono {α : Type} {S S' : List Nat} {o : Option ((α ⊕ Nat) × Mem)} (h : EX S o) (hs : ∀ x, x ∈ S → x ∈ S') : EX S' o := fun x m e => hs x (h x m e)
