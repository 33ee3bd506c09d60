def hat (v : Nat) : Nat := if v < 1000000000 then v else 1000000000
def mF (δ : Nat → Nat) (a : Nat) : Nat := if δ a < 1000000000 then δ a else 2000000000
