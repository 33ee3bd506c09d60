theorem ss_bd {d : Nat → Nat → Option Nat} {wa : Nat → Bool} {t i c : Nat} (hi : i < c) : Ss d wa (t + 1) i < c := by
  have h1 := nm_ltc (sig := sgM d (Ss d wa t)) (U := fun _ => true) rfl hi
  have h2 := cnt_le (nwF (sgM d (Ss d wa t)) (fun _ => true)) c
  show nmF _ _ _ < c
  omega
