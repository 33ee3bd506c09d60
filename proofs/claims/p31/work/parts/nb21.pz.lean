def nwS (S : Nat → Nat) (k n : Nat) : Bool := (List.range n).all (fun j => decide (S j ≠ S k))
theorem nwS_iff {S : Nat → Nat} {k n : Nat} : nwS S k n = true ↔ ∀ j, j < n → S j ≠ S k := by
  unfold nwS
  rw [List.all_eq_true]
  constructor
  · intro h j hj
    exact of_decide_eq_true (h j (List.mem_range.mpr hj))
  · intro h j hj
    exact decide_eq_true (h j (List.mem_range.mp hj))
abbrev mnR (d : Nat → Nat → Option Nat) (S : Nat → Nat) (k n : Nat) : ArL := drw d (fun j => some (S j)) k (S k) n
abbrev mnD (d : Nat → Nat → Option Nat) (S : Nat → Nat) (n : Nat) : ArL := fmN (fun k => if nwS S k k = true then mnR d S k 8 else []) n
def mnE (S : Nat → Nat) (wa : Nat → Bool) : Nat → Nat → Bool
  | 0 => fun _ => false
  | n + 1 => fun x => if x = S n then wa n else mnE S wa n x
theorem mnE_at {S : Nat → Nat} {wa : Nat → Bool} : ∀ {n i : Nat}, (∀ i j, i < n → j < n → S i = S j → wa i = wa j) → i < n → mnE S wa n (S i) = wa i
  | 0, i, _, hi => absurd hi (Nat.not_lt_zero _)
  | n + 1, i, h, hi => by
    show (if S i = S n then wa n else mnE S wa n (S i)) = wa i
    by_cases c : S i = S n
    · rw [if_pos c]; exact (h i n hi (by omega) c).symm
    · rw [if_neg c]
      exact mnE_at (fun i j h1 h2 => h i j (by omega) (by omega)) (by
        rcases Nat.lt_or_ge i n with h | h
        · exact h
        · exact absurd (by rw [show i = n by omega]) c)
