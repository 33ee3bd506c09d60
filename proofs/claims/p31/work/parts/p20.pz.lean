
/-! longs: sets of states, and numbers of arcs -/
def t6 (x : Int64) (s : Nat) : Bool := x.toBitVec.getLsbD s
theorem t6_ext {x y : Int64} (h : ∀ s, s < 64 → t6 x s = t6 y s) : x = y := Int64.toBitVec_inj.mp (BitVec.eq_of_getLsbD_eq (fun i hi => h i hi))
theorem t6_or (x y : Int64) (s : Nat) : t6 (x ||| y) s = (t6 x s || t6 y s) := by
  show (x ||| y).toBitVec.getLsbD s = _
  rw [Int64.toBitVec_or, BitVec.getLsbD_or]; rfl
theorem t6_and (x y : Int64) (s : Nat) : t6 (x &&& y) s = (t6 x s && t6 y s) := by
  show (x &&& y).toBitVec.getLsbD s = _
  rw [Int64.toBitVec_and, BitVec.getLsbD_and]; rfl
theorem t6_0 (s : Nat) : t6 (0 : Int64) s = false := by
  show (0#64).getLsbD s = false
  exact BitVec.getLsbD_zero
theorem t6_1 : ∀ s, s < 64 → t6 (1 : Int64) s = decide (s = 0) := by decide +kernel
theorem t6_shl : ∀ s, s < 32 → ∀ i, i < 64 → t6 (l_shl (1 : Int64) (nI s)) i = decide (i = s) := by decide +kernel
theorem t6_full : ∀ n, n < 33 → ∀ i, i < 64 → t6 (l_shl (1 : Int64) (nI n) - (1 : Int64)) i = decide (i < n) := by decide +kernel
theorem sh6_amt : ∀ s, s < 32 → (((nI s).toInt64 &&& 63).toBitVec.smod 64).toNat = s := by decide +kernel
theorem bit6_shr {x : Int64} {s : Nat} (hs : s < 32) : (l_shr x (nI s) &&& (1 : Int64) = (1 : Int64)) = (t6 x s = true) := by
  have h0 : t6 (l_shr x (nI s)) 0 = t6 x s := by
    show (x.toBitVec.sshiftRight (((nI s).toInt64 &&& 63).toBitVec.smod 64).toNat).getLsbD 0 = _
    rw [sh6_amt s hs, BitVec.getLsbD_sshiftRight]
    have : s + 0 < 64 := by omega
    simp [this]
    rw [if_pos (by omega)]
    rfl
  have e : (l_shr x (nI s) &&& (1 : Int64)) = if t6 x s = true then (1 : Int64) else (0 : Int64) := by
    apply t6_ext
    intro i hi
    rw [t6_and, t6_1 i hi]
    by_cases hi0 : i = 0
    · rw [hi0, h0]
      cases t6 x s
      · rfl
      · rfl
    · rw [decide_eq_false hi0, Bool.and_false]
      split
      · rw [t6_1 i hi, decide_eq_false hi0]
      · rw [t6_0]
  rw [e]
  cases t6 x s
  · exact propext ⟨fun h => absurd h (by decide), fun h => (by cases h)⟩
  · exact propext ⟨fun _ => rfl, fun _ => rfl⟩
def V6 (x : Int64) (a : Nat) : Prop := x.toInt = a ∧ a < 2 ^ 50
theorem v6_i {a : Nat} (h : a < 2 ^ 31) : V6 (nI a).toInt64 a := ⟨by rw [Jvm.Kit.i64_of_i32, nI_toInt h], by omega⟩
theorem v6_add {x y : Int64} {a b : Nat} (hx : V6 x a) (hy : V6 y b) (h : a + b < 2 ^ 50) : V6 (x + y) (a + b) := by
  obtain ⟨h1, h2⟩ := hx
  obtain ⟨h3, h4⟩ := hy
  refine ⟨?_, h⟩
  rw [Jvm.Kit.i64_add (by omega) (by omega), h1, h3]
  omega
theorem v6_16 {x : Int64} {a : Nat} (hx : V6 x a) (h : a * 16 < 2 ^ 50) : V6 (x * (16 : Int64)) (a * 16) := by
  obtain ⟨h1, h2⟩ := hx
  have e : (16 : Int64).toInt = 16 := by decide
  refine ⟨?_, h⟩
  rw [Jvm.Kit.i64_mul (by rw [e]; omega) (by rw [e]; omega), h1, e]
  omega
theorem v6_64 {x : Int64} {a : Nat} (hx : V6 x a) (h : a * 64 < 2 ^ 50) : V6 (x * (64 : Int64)) (a * 64) := by
  obtain ⟨h1, h2⟩ := hx
  have e : (64 : Int64).toInt = 64 := by decide
  refine ⟨?_, h⟩
  rw [Jvm.Kit.i64_mul (by rw [e]; omega) (by rw [e]; omega), h1, e]
  omega
/-- the number that the law gives an arc -/
def nwA (p : Nat) : Nat := ((fr p * 16 + upr p) * 16 + lwr p) * 64 + too p
theorem v6_gen {a u l t : Nat} (h1 : a < 32) (h2 : u < 16) (h3 : l < 16) (h4 : t < 32) : V6 ((((((nI a).toInt64 * (16 : Int64)) + (nI u).toInt64) * (16 : Int64)) + (nI l).toInt64) * (64 : Int64) + (nI t).toInt64) (((a * 16 + u) * 16 + l) * 64 + t) :=
  v6_add (v6_64 (v6_add (v6_16 (v6_add (v6_16 (v6_i (by omega)) (by omega)) (v6_i (by omega)) (by omega)) (by omega)) (v6_i (by omega)) (by omega)) (by omega)) (v6_i (by omega)) (by omega)
theorem v6_arc {p : Nat} (h1 : fr p < 32) (h2 : too p < 32) : V6 ((((((nI (fr p)).toInt64 * (16 : Int64)) + (nI (upr p)).toInt64) * (16 : Int64)) + (nI (lwr p)).toInt64) * (64 : Int64) + (nI (too p)).toInt64) (nwA p) :=
  v6_gen h1 (Nat.mod_lt _ (by decide)) (Nat.mod_lt _ (by decide)) h2
theorem v6_gt {x y : Int64} {a b : Nat} (hx : V6 x a) (hy : V6 y b) (h : b < a) : ¬ lg_cmp x y ≤ (0 : Int32) := by
  rw [lg_cmp_le, Int64.le_iff_toInt_le, hx.1, hy.1]
  omega
theorem v6_gtM {x : Int64} {a : Nat} (hx : V6 x a) : ¬ lg_cmp x (-1 : Int64) ≤ (0 : Int32) := by
  rw [lg_cmp_le, Int64.le_iff_toInt_le, hx.1]
  have : (-1 : Int64).toInt = -1 := by decide
  omega
theorem nw_e (p : Nat) : nwA p = p / 1024 * 64 + p % 1024 := by
  have e : (p / 262144 * 16 + p / 16384 % 16) * 16 + p / 1024 % 16 = p / 1024 := by
    have e1 : p / 262144 = p / 16384 / 16 := by rw [Nat.div_div_eq_div_mul]
    have e2 : p / 16384 = p / 1024 / 16 := by rw [Nat.div_div_eq_div_mul]
    rw [e1, e2]
    omega
  show ((p / 262144 * 16 + p / 16384 % 16) * 16 + p / 1024 % 16) * 64 + p % 1024 = _
  rw [e]
theorem nw_lt {p p' : Nat} (h : p < p') (h1 : too p < 64) (h2 : too p' < 64) : nwA p < nwA p' := by
  have h1 : p % 1024 < 64 := h1
  have h2 : p' % 1024 < 64 := h2
  rw [nw_e, nw_e]
  omega
/-! machines that are kept are trimmed -/
theorem md_tf {M : Ma} (h : MdM M) : BfsM M.1 M.2.2 ∧ ((M.1 = 1 ∧ M.2.2 = []) ∨ ∀ i, i < M.1 → ∃ e, e < M.1 ∧ M.2.1 e = true ∧ Rc (aR M.2.2) i e) := by
  obtain ⟨n, st, E, D, hst, hn, hok, W, hW, ⟨_, h⟩ | ⟨hb, h⟩⟩ := h
  · cases h
  · cases h
    refine ⟨made_bfs hW hok hst hb, ?_⟩
    by_cases hs : st ∈ W
    · right
      intro i hi
      obtain ⟨k1, k2, k3⟩ := oq_at hW hok hst hb hi
      have h6 : (outQ D W st)[i]? = some ((outQ D W st).getD i 0) := by
        rw [List.getD_eq_getElem?_getD, List.getElem?_eq_getElem hi]; rfl
      have hm := ((oq_get hW hok hs hb).2.2 _).mp (List.mem_of_getElem? h6)
      obtain ⟨_, _, e, e1, e2, e3⟩ := (hW.2 _).mp hm
      obtain ⟨P, hP⟩ := Pth.of_rc e3
      obtain ⟨_, a2, P', a3, _⟩ := pth_up hW hok hst hb e1 e2 k3 k1 hP
      rw [k2] at a3
      have ht := ((oq_get hW hok hs hb).2.2 e).mpr a2
      refine ⟨_, ixo_lt ht, ?_, a3.rc⟩
      show (decide (ixo (outQ D W st) e < (outQ D W st).length) && E ((outQ D W st).getD (ixo (outQ D W st) e) 0)) = true
      rw [ixo_getD ht, e2, decide_eq_true (ixo_lt ht)]
      rfl
    · left
      obtain ⟨w1, w2, w3, w4⟩ := ord_none hW hst hs
      refine ⟨?_, ?_⟩
      · show (ordQ (usA D W) st).length = 1
        rw [w3]; rfl
      · show insL ((usA D W).map _) [] = []
        rw [w2]; rfl
