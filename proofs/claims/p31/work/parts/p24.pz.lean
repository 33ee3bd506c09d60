
/-! a turn of the law: its numbers -/
theorem sh_1 {y : Nat} (h : y < 2 ^ 31) : q_shr (nI y) (nI 1) = nI (y / 2) := pk_shrN h ((1 : Int32) &&& 31) 1 (by decide)
theorem sh_2 {y : Nat} (h : y < 2 ^ 31) : q_shr (nI y) (nI 2) = nI (y / 4) := pk_shrN h ((2 : Int32) &&& 31) 2 (by decide)
theorem sh_3 {y : Nat} (h : y < 2 ^ 31) : q_shr (nI y) (nI 3) = nI (y / 8) := pk_shrN h ((3 : Int32) &&& 31) 3 (by decide)
theorem sh_5 {y : Nat} (h : y < 2 ^ 31) : q_shr (nI y) (nI 5) = nI (y / 32) := pk_shrN h ((5 : Int32) &&& 31) 5 (by decide)
theorem sh_7 {y : Nat} (h : y < 2 ^ 31) : q_shr (nI y) (nI 7) = nI (y / 128) := pk_shrN h ((7 : Int32) &&& 31) 7 (by decide)
theorem sh_8 {y : Nat} (h : y < 2 ^ 31) : q_shr (nI y) (nI 8) = nI (y / 256) := pk_shrN h ((8 : Int32) &&& 31) 8 (by decide)
theorem sh_10 {y : Nat} (h : y < 2 ^ 31) : q_shr (nI y) (nI 10) = nI (y / 1024) := pk_shrN h ((10 : Int32) &&& 31) 10 (by decide)
theorem am_1 {y : Nat} (h : y < 2 ^ 31) : nI y &&& nI 1 = nI (y % 2) := pk_andN (by omega) 1 (by decide)
theorem am_3 {y : Nat} (h : y < 2 ^ 31) : nI y &&& nI 3 = nI (y % 4) := pk_andN (by omega) 2 (by decide)
theorem rm_n {a b : Nat} (ha : a < 2 ^ 31) (h0 : 0 < b) (hb : b < 2 ^ 31) : q_rem (nI a) (nI b) = nI (a % b) := pk_rem (by omega) (by omega) (by omega)
theorem nI_toB (v : Int32) : v = nI v.toBitVec.toNat := by
  apply Int32.toBitVec_inj.mp
  show v.toBitVec = BitVec.ofNat 32 v.toBitVec.toNat
  rw [BitVec.ofNat_toNat, BitVec.setWidth_eq]
theorem msk {K : Nat} (hK : K < 2 ^ 31) (v : Int32) : ∃ y, y ≤ K ∧ v &&& nI K = nI y := by
  refine ⟨(v &&& nI K).toBitVec.toNat, ?_, nI_toB _⟩
  rw [Int32.toBitVec_and, BitVec.toNat_and]
  refine Nat.le_trans Nat.and_le_right ?_
  show (BitVec.ofNat 32 K).toNat ≤ K
  rw [BitVec.toNat_ofNat]
  exact Nat.mod_le _ _
theorem tt_i : (-13 : Int32).toInt = -13 := by decide
theorem tt_1 {a : Nat} (h : a < 2 ^ 31) : (nI a = (-13 : Int32)) = False := eq_false (fun e => by
  have h1 := congrArg Int32.toInt e
  rw [nI_toInt h, tt_i] at h1
  omega)
theorem tt_2 {a : Nat} (h : a < 2 ^ 31) : ((-13 : Int32) = nI a) = False := eq_false (fun e => by
  have h1 := congrArg Int32.toInt e
  rw [nI_toInt h, tt_i] at h1
  omega)
theorem tt_3 {a : Nat} (h : a < 2 ^ 31) : ((-13 : Int32) < nI a) = True := eq_true (Int32.lt_iff_toInt_lt.mpr (by rw [nI_toInt h, tt_i]; omega))
theorem tt_4 {a : Nat} (h : a < 2 ^ 31) : (nI a ≤ (-13 : Int32)) = False := eq_false (fun e => by
  have h1 := Int32.le_iff_toInt_le.mp e
  rw [nI_toInt h, tt_i] at h1
  omega)
theorem tt_5 : ((-13 : Int32) = nM) = False := by decide
theorem tt_6 : ((-13 : Int32) = (-13 : Int32)) = True := eq_self _
theorem tt_7 : (nM = (-13 : Int32)) = False := by decide
/-! what the law asks for -/
theorem calx_id {o : Option ((Int32 ⊕ Nat) × Mem)} : calx o (fun r m => some (.inl r, m)) = o := by
  rcases o with _ | ⟨x | x, m⟩ <;> rfl
theorem on_t {N : Nat} {m m1 : Mem} {x1 x2 x3 x4 x5 x6 r : Int32} (h : F_L_asks N m x1 x2 x3 x4 x5 x6 = some (.inl r, m1)) : F_L_on N m x1 x2 x3 x4 x5 x6 = some (r, m1) := by
  unfold F_L_on
  rw [h]
  rfl
theorem on_e {N : Nat} {m m1 : Mem} {x1 x2 x3 x4 x5 x6 : Int32} (h : F_L_asks N m x1 x2 x3 x4 x5 x6 = some (.inr 1, m1)) : F_L_on N m x1 x2 x3 x4 x5 x6 = some ((-13), m1) := by
  unfold F_L_on
  rw [h]
  rfl
section ASKS
variable {N : Nat} {m : Mem} {a b c d e : Int32}
theorem ask_0 : F_L_asks N m (nI 0) a b c d e = F_X7_pair N m a b c := by
  unfold F_L_asks
  rw [if_pos (by decide)]
  exact calx_id
theorem ask_1 : F_L_asks N m (nI 1) a b c d e = F_X7_word N m := by
  unfold F_L_asks
  rw [if_neg (by decide), if_pos (by decide)]
  exact calx_id
theorem ask_2 : F_L_asks N m (nI 2) a b c d e = F_X7_any N m := by
  unfold F_L_asks
  rw [if_neg (by decide), if_neg (by decide), if_pos (by decide)]
  exact calx_id
theorem ask_3 : F_L_asks N m (nI 3) a b c d e = F_X7_join N m a b := by
  unfold F_L_asks
  rw [if_neg (by decide), if_neg (by decide), if_neg (by decide), if_pos (by decide)]
  exact calx_id
theorem ask_4 : F_L_asks N m (nI 4) a b c d e = F_X7_unite N m a b := by
  unfold F_L_asks
  rw [if_neg (by decide), if_neg (by decide), if_neg (by decide), if_neg (by decide), if_pos (by decide)]
  exact calx_id
theorem ask_5 : F_L_asks N m (nI 5) a b c d e = F_X7_repeat N m a := by
  unfold F_L_asks
  rw [if_neg (by decide), if_neg (by decide), if_neg (by decide), if_neg (by decide), if_neg (by decide), if_pos (by decide)]
  exact calx_id
theorem ask_6 : F_L_asks N m (nI 6) a b c d e = F_X7_turn N m a := by
  unfold F_L_asks
  rw [if_neg (by decide), if_neg (by decide), if_neg (by decide), if_neg (by decide), if_neg (by decide), if_neg (by decide), if_pos (by decide)]
  exact calx_id
theorem ask_7 : F_L_asks N m (nI 7) a b c d e = F_X7_compose N m a b := by
  unfold F_L_asks
  rw [if_neg (by decide), if_neg (by decide), if_neg (by decide), if_neg (by decide), if_neg (by decide), if_neg (by decide), if_neg (by decide), if_pos (by decide)]
  exact calx_id
theorem ask_8 {u : Bool} (hb : b = bI u) : F_L_asks N m (nI 8) a b c d e = F_X7_side N m a (bI u) := by
  subst hb
  unfold F_L_asks
  rw [if_neg (by decide), if_neg (by decide), if_neg (by decide), if_neg (by decide), if_neg (by decide), if_neg (by decide), if_neg (by decide), if_neg (by decide), if_pos (by decide)]
  cases u
  · exact calx_id
  · exact calx_id
theorem ask_9 : F_L_asks N m (nI 9) a b c d e = F_X7_least N m a := by
  unfold F_L_asks
  rw [if_neg (by decide), if_neg (by decide), if_neg (by decide), if_neg (by decide), if_neg (by decide), if_neg (by decide), if_neg (by decide), if_neg (by decide), if_neg (by decide), if_pos (by decide)]
  exact calx_id
theorem ask_10 {u : Bool} (hc : c = bI u) : F_L_asks N m (nI 10) a b c d e = F_X7_meet N m a b (bI u) := by
  subst hc
  unfold F_L_asks
  rw [if_neg (by decide), if_neg (by decide), if_neg (by decide), if_neg (by decide), if_neg (by decide), if_neg (by decide), if_neg (by decide), if_neg (by decide), if_neg (by decide), if_neg (by decide), if_pos (by decide)]
  cases u
  · exact calx_id
  · exact calx_id
theorem ask_11 : F_L_asks N m (11 : Int32) a b c d (nI 0) = F_X7_rule N m a b c d (nI 0) := by
  unfold F_L_asks
  rw [if_neg (by decide), if_neg (by decide), if_neg (by decide), if_neg (by decide), if_neg (by decide), if_neg (by decide), if_neg (by decide), if_neg (by decide), if_neg (by decide), if_neg (by decide), if_neg (by decide), if_pos (by decide)]
  exact calx_id
theorem ask_12 : F_L_asks N m (12 : Int32) a b c d e = F_X7_apart N m a b c := by
  unfold F_L_asks
  rw [if_neg (by decide), if_neg (by decide), if_neg (by decide), if_neg (by decide), if_neg (by decide), if_neg (by decide), if_neg (by decide), if_neg (by decide), if_neg (by decide), if_neg (by decide), if_neg (by decide), if_neg (by decide), if_pos (by decide)]
  exact calx_id
end ASKS
