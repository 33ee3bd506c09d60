abbrev InR (m : Mem) (d : Nat) : Nat → Prop := fun a => a < 288 ∧ At m d a
def GI (u : Bool) (L : ArL) (w : List Nat) (δ : Nat → Nat) (d x : Nat) (m0 m : Mem) (fl : Bool) : Prop := ORw (d + 1) m0 m ∧ Bo m (d + 1) ∧ (∀ a, a < 288 → At m (d + 1) a → NxK (wU u) L w δ false x (InR m0 d) a) ∧ (fl = true ↔ ∃ a, a < 288 ∧ At m (d + 1) a)
theorem GI.at0 {u : Bool} {L : ArL} {w : List Nat} {δ : Nat → Nat} {d x a : Nat} {m0 m : Mem} {fl : Bool} (h : GI u L w δ d x m0 m fl) (ha : a < 288) : m 102 (288 * d + a) = m0 102 (288 * d + a) := h.1.2 _ (by omega)
