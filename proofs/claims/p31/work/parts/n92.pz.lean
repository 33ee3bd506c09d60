def Cand (D : ArL) (rd us : Nat → Bool) (s lim : Nat) (q : Nat × Nat) : Prop := fr q.1 = s ∧ lim ≤ q.1 ∧ rd (too q.1) = true ∧ us (too q.1) = true
