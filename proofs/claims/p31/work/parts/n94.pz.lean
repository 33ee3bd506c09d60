theorem pk_upM {p : Nat} (h : p < 2 ^ 31) : q_shr (nI p) (nI 14) &&& nI 15 = nI (p / 16384 % 16) := by
  show (nI p >>> ((14 : Int32) &&& 31)) &&& (15 : Int32) = _
  rw [pk_shrN h ((14 : Int32) &&& 31) 14 (by decide)]
  exact pk_andN (by omega) 4 (by decide)
theorem pk_loM {p : Nat} (h : p < 2 ^ 31) : q_shr (nI p) (nI 10) &&& nI 15 = nI (p / 1024 % 16) := by
  show (nI p >>> ((10 : Int32) &&& 31)) &&& (15 : Int32) = _
  rw [pk_shrN h ((10 : Int32) &&& 31) 10 (by decide)]
  exact pk_andN (by omega) 4 (by decide)
theorem reA_pre {Q : List Nat} (R : List Nat) {q : Nat × Nat} (h1 : fr q.1 ∈ Q) (h2 : too q.1 ∈ Q) : reA (Q ++ R) q = reA Q q := by
  unfold reA
  rw [ixo_app R h1, ixo_app R h2]
theorem map_reA {Q : List Nat} (R : List Nat) {Z : ArL} (h : ∀ q, q ∈ Z → fr q.1 ∈ Q ∧ too q.1 ∈ Q) : Z.map (reA (Q ++ R)) = Z.map (reA Q) := List.map_congr_left (fun q hq => reA_pre R (h q hq).1 (h q hq).2)
