abbrev eU (u : Bool) (L : ArL) (w : List Nat) : Nat → Nat → Nat → Prop := eG (wU u) L w
