def mt (nB : Nat) (a b : Nat × Nat) : Option (Nat × Nat) := if lwr a.1 = 8 then none else if lwr a.1 = upr b.1 then some (pkA (fr a.1 * nB + fr b.1) (upr a.1) (lwr b.1) (too a.1 * nB + too b.1), a.2 + b.2) else none
def mv1 (nB : Nat) (a : Nat × Nat) : ArL := if lwr a.1 = 8 then bA (fun s => (pkA (fr a.1 * nB + s) (upr a.1) 8 (too a.1 * nB + s), a.2)) nB else []
def mv2 (nA nB : Nat) (b : Nat × Nat) : ArL := if upr b.1 = 8 then bA (fun s => (pkA (s * nB + fr b.1) 8 (lwr b.1) (s * nB + too b.1), b.2)) nA else []
abbrev mts (nB : Nat) (LB : ArL) (a : Nat × Nat) : ArL := LB.filterMap (mt nB a)
abbrev cpD (nA nB : Nat) (LA LB : ArL) : ArL := (LA.flatMap (mts nB LB) ++ LA.flatMap (mv1 nB)) ++ LB.flatMap (mv2 nA nB)
def Dear (a b : Nat × Nat) : Prop := lwr a.1 ≠ 8 ∧ lwr a.1 = upr b.1 ∧ 1000000 < a.2 + b.2
theorem cp_lt {x y nA nB : Nat} (hx : x < nA) (hy : y < nB) : x * nB + y < nA * nB := by
  have h1 : (x + 1) * nB ≤ nA * nB := Nat.mul_le_mul_right nB hx
  rw [Nat.add_mul, Nat.one_mul] at h1
  omega
theorem cp_div {x y nB : Nat} (hy : y < nB) : (x * nB + y) / nB = x := by
  rw [Nat.mul_comm, Nat.mul_add_div (by omega), Nat.div_eq_of_lt hy, Nat.add_zero]
theorem cp_mod {x y nB : Nat} (hy : y < nB) : (x * nB + y) % nB = y := by
  rw [Nat.mul_comm, Nat.mul_add_mod, Nat.mod_eq_of_lt hy]
theorem cp_af {nA nB : Nat} {fA fB : Nat → Bool} {LA LB : ArL} (hA : VM (nA, fA, LA)) (hB : VM (nB, fB, LB)) (hd : ∀ a b, a ∈ LA → b ∈ LB → ¬ Dear a b) : DOK (nA * nB) (cpD nA nB LA LB) ∧ Acy upr (cpD nA nB LA LB) ∧ Acy lwr (cpD nA nB LA LB) := by
  obtain ⟨a1, a2, a3, a4, a5, a6, a7⟩ := hA
  obtain ⟨b1, b2, b3, b4, b5, b6, b7⟩ := hB
  have a1 : 1 ≤ nA := a1
  have a2 : nA ≤ 32 := a2
  have b1 : 1 ≤ nB := b1
  have b2 : nB ≤ 32 := b2
  have a5 : DOK nA LA := a5
  have b5 : DOK nB LB := b5
  have hn : nA * nB ≤ 1024 := Nat.mul_le_mul a2 b2
  obtain ⟨ru, ru1, _, ru3⟩ := acy_bd a6 a5
  obtain ⟨rl, rl1, _, rl3⟩ := acy_bd a7 a5
  obtain ⟨su, su1, _, su3⟩ := acy_bd b6 b5
  obtain ⟨sl, sl1, _, sl3⟩ := acy_bd b7 b5
  refine AF.all (n := nA * nB) (ru := fun s => 33 * ru (s / nB) + su (s % nB)) (rl := fun s => 33 * sl (s % nB) + rl (s / nB)) hn ?_
  intro q hq
  rcases List.mem_append.mp hq with hq | hq
  · rcases List.mem_append.mp hq with hq | hq
    · obtain ⟨a, ha, hq⟩ := List.mem_flatMap.mp hq
      obtain ⟨b, hb, e⟩ := List.mem_filterMap.mp hq
      obtain ⟨h1, h2, h3, h4, h5, h6⟩ := a5 a ha
      obtain ⟨k1, k2, k3, k4, k5, k6⟩ := b5 b hb
      unfold mt at e
      by_cases c1 : lwr a.1 = 8
      · rw [if_pos c1] at e; cases e
      · rw [if_neg c1] at e
        by_cases c2 : lwr a.1 = upr b.1
        · rw [if_pos c2] at e
          have c3 : ¬ 1000000 < a.2 + b.2 := fun h => hd a b ha hb ⟨c1, c2, h⟩
          refine ⟨fr a.1 * nB + fr b.1, upr a.1, lwr b.1, too a.1 * nB + too b.1, a.2 + b.2, (Option.some.inj e).symm, cp_lt h2 k2, h4, k5, cp_lt h3 k3, by omega, fun h8 => ?_, fun h8 => ?_⟩
          · show 33 * ru ((too a.1 * nB + too b.1) / nB) + su ((too a.1 * nB + too b.1) % nB) < 33 * ru ((fr a.1 * nB + fr b.1) / nB) + su ((fr a.1 * nB + fr b.1) % nB)
            rw [cp_div k3, cp_div k2, cp_mod k3, cp_mod k2]
            have := ru3 a ha h8
            have := su1 (too b.1)
            omega
          · show 33 * sl ((too a.1 * nB + too b.1) % nB) + rl ((too a.1 * nB + too b.1) / nB) < 33 * sl ((fr a.1 * nB + fr b.1) % nB) + rl ((fr a.1 * nB + fr b.1) / nB)
            rw [cp_div k3, cp_div k2, cp_mod k3, cp_mod k2]
            have := sl3 b hb h8
            have := rl1 (too a.1)
            omega
        · rw [if_neg c2] at e; cases e
    · obtain ⟨a, ha, hq⟩ := List.mem_flatMap.mp hq
      obtain ⟨h1, h2, h3, h4, h5, h6⟩ := a5 a ha
      unfold mv1 at hq
      by_cases c1 : lwr a.1 = 8
      · rw [if_pos c1] at hq
        obtain ⟨s, hs, rfl⟩ := bA_mem hq
        refine ⟨fr a.1 * nB + s, upr a.1, 8, too a.1 * nB + s, a.2, rfl, cp_lt h2 hs, h4, by omega, cp_lt h3 hs, h6, fun h8 => ?_, fun h8 => ?_⟩
        · show 33 * ru ((too a.1 * nB + s) / nB) + su ((too a.1 * nB + s) % nB) < 33 * ru ((fr a.1 * nB + s) / nB) + su ((fr a.1 * nB + s) % nB)
          rw [cp_div hs, cp_div hs, cp_mod hs, cp_mod hs]
          have := ru3 a ha h8
          omega
        · show 33 * sl ((too a.1 * nB + s) % nB) + rl ((too a.1 * nB + s) / nB) < 33 * sl ((fr a.1 * nB + s) % nB) + rl ((fr a.1 * nB + s) / nB)
          rw [cp_div hs, cp_div hs, cp_mod hs, cp_mod hs]
          have := rl3 a ha c1
          omega
      · rw [if_neg c1] at hq; cases hq
  · obtain ⟨b, hb, hq⟩ := List.mem_flatMap.mp hq
    obtain ⟨k1, k2, k3, k4, k5, k6⟩ := b5 b hb
    unfold mv2 at hq
    by_cases c1 : upr b.1 = 8
    · rw [if_pos c1] at hq
      obtain ⟨s, hs, rfl⟩ := bA_mem hq
      refine ⟨s * nB + fr b.1, 8, lwr b.1, s * nB + too b.1, b.2, rfl, cp_lt hs k2, by omega, k5, cp_lt hs k3, k6, fun h8 => ?_, fun h8 => ?_⟩
      · show 33 * ru ((s * nB + too b.1) / nB) + su ((s * nB + too b.1) % nB) < 33 * ru ((s * nB + fr b.1) / nB) + su ((s * nB + fr b.1) % nB)
        rw [cp_div k3, cp_div k2, cp_mod k3, cp_mod k2]
        have := su3 b hb c1
        omega
      · show 33 * sl ((s * nB + too b.1) % nB) + rl ((s * nB + too b.1) / nB) < 33 * sl ((s * nB + fr b.1) % nB) + rl ((s * nB + fr b.1) / nB)
        rw [cp_div k3, cp_div k2, cp_mod k3, cp_mod k2]
        have := sl3 b hb h8
        omega
    · rw [if_neg c1] at hq; cases hq
theorem fm_s {h : Nat × Nat → ArL} {L : ArL} {i : Nat} {q : Nat × Nat} (hq : L[i]? = some q) : (L.take (i + 1)).flatMap h = (L.take i).flatMap h ++ h q := by
  rw [List.take_add_one, hq, List.flatMap_append]
  simp
theorem fm_len {h : Nat × Nat → ArL} {c : Nat} : ∀ (L : ArL), (∀ a, a ∈ L → (h a).length ≤ c) → (L.flatMap h).length ≤ c * L.length
  | [], _ => Nat.zero_le _
  | a :: L, hc => by
    rw [List.flatMap_cons, List.length_append, List.length_cons, Nat.mul_add]
    have h1 := fm_len (h := h) (c := c) L (fun x hx => hc x (List.mem_cons_of_mem _ hx))
    have h2 := hc a (List.mem_cons_self ..)
    omega
theorem fm_part {h : Nat × Nat → ArL} {L : ArL} {i : Nat} {q : Nat × Nat} (hq : L[i]? = some q) : ((L.take i).flatMap h).length + (h q).length ≤ (L.flatMap h).length := by
  have e : L.flatMap h = (L.take (i + 1)).flatMap h ++ (L.drop (i + 1)).flatMap h := by rw [← List.flatMap_append, List.take_append_drop]
  rw [e, fm_s hq, List.length_append, List.length_append]
  omega
def noE (g : Nat → Nat) (L : ArL) : Nat := L.countP (fun a => decide (g a.1 ≠ 8))
theorem noE_c (g : Nat → Nat) (a : Nat × Nat) (L : ArL) : noE g (a :: L) = noE g L + if g a.1 = 8 then 0 else 1 := by
  unfold noE
  rw [List.countP_cons]
  by_cases h : g a.1 = 8
  · simp [h]
  · simp [h]
theorem noE_le (g : Nat → Nat) (L : ArL) : noE g L ≤ L.length := List.countP_le_length
theorem mts_len {nB : Nat} {LB : ArL} (a : Nat × Nat) : (mts nB LB a).length ≤ if lwr a.1 = 8 then 0 else noE upr LB := by
  induction LB with
  | nil => exact Nat.zero_le _
  | cons b LB ih =>
    rw [noE_c]
    unfold mts at ih ⊢
    rw [List.filterMap_cons]
    unfold mt at ih ⊢
    by_cases c1 : lwr a.1 = 8
    · rw [if_pos c1] at ih ⊢
      rw [if_pos c1]
      exact ih
    · rw [if_neg c1] at ih ⊢
      rw [if_neg c1]
      by_cases c2 : lwr a.1 = upr b.1
      · rw [if_pos c2, if_neg (by omega : ¬ upr b.1 = 8)]
        rw [List.length_cons]
        omega
      · rw [if_neg c2]
        exact Nat.le_trans ih (Nat.le_add_right _ _)
theorem fm1_len {nB : Nat} {LB : ArL} : ∀ LA : ArL, (LA.flatMap (mts nB LB)).length ≤ noE lwr LA * noE upr LB
  | [] => Nat.zero_le _
  | a :: LA => by
    rw [List.flatMap_cons, List.length_append, noE_c, Nat.add_mul]
    have h1 := fm1_len (nB := nB) (LB := LB) LA
    have h2 := mts_len (nB := nB) (LB := LB) a
    split at h2
    · rename_i h; rw [if_pos h]; omega
    · rename_i h; rw [if_neg h, Nat.one_mul]; omega
theorem fm2_len {nB : Nat} (hn : nB ≤ 32) : ∀ LA : ArL, (LA.flatMap (mv1 nB)).length + 32 * noE lwr LA ≤ 32 * LA.length
  | [] => Nat.le_refl _
  | a :: LA => by
    rw [List.flatMap_cons, List.length_append, noE_c, List.length_cons]
    have h1 := fm2_len hn LA
    unfold mv1
    by_cases h : lwr a.1 = 8
    · rw [if_pos h, if_pos h, bA_len]
      unfold mv1 at h1
      omega
    · rw [if_neg h, if_neg h]
      unfold mv1 at h1
      show 0 + _ + _ ≤ _
      omega
theorem fm3_len {nA nB : Nat} (hn : nA ≤ 32) : ∀ LB : ArL, (LB.flatMap (mv2 nA nB)).length + 32 * noE upr LB ≤ 32 * LB.length
  | [] => Nat.le_refl _
  | a :: LA => by
    rw [List.flatMap_cons, List.length_append, noE_c, List.length_cons]
    have h1 := fm3_len (nB := nB) hn LA
    unfold mv2
    by_cases h : upr a.1 = 8
    · rw [if_pos h, if_pos h, bA_len]
      unfold mv2 at h1
      omega
    · rw [if_neg h, if_neg h]
      unfold mv2 at h1
      show 0 + _ + _ ≤ _
      omega
theorem cp_len {nA nB : Nat} {LA LB : ArL} (ha : nA ≤ 32) (hb : nB ≤ 32) (h1 : LA.length ≤ 160) (h2 : LB.length ≤ 160) : (LA.flatMap (mts nB LB)).length + (LA.flatMap (mv1 nB)).length + (LB.flatMap (mv2 nA nB)).length ≤ 25600 := by
  have k1 := fm1_len (nB := nB) (LB := LB) LA
  have k2 := fm2_len hb LA
  have k3 := fm3_len (nB := nB) ha LB
  have k4 := noE_le lwr LA
  have k5 := noE_le upr LB
  obtain ⟨u, hu⟩ : ∃ u, u = noE lwr LA := ⟨_, rfl⟩
  obtain ⟨v, hv⟩ : ∃ v, v = noE upr LB := ⟨_, rfl⟩
  rw [← hu] at k1 k2 k4
  rw [← hv] at k1 k3 k5
  rcases Nat.lt_or_ge 32 v with h | h
  · obtain ⟨w, rfl⟩ : ∃ w, v = 32 + w := ⟨v - 32, by omega⟩
    have e1 : u * (32 + w) = u * 32 + u * w := Nat.mul_add _ _ _
    have e2 : u * w ≤ 160 * w := Nat.mul_le_mul_right w (by omega)
    omega
  · have e1 : u * v ≤ u * 32 := Nat.mul_le_mul_left u h
    omega
def cpE (fA fB : Nat → Bool) (nB i x : Nat) : Bool := decide (x < i * nB) && (fA (x / nB) && fB (x % nB))
theorem cpE_s {fA fB : Nat → Bool} {nB i : Nat} (hn : 1 ≤ nB) : (if fA i = true then shE (cpE fA fB nB i) fB (i * nB) nB else cpE fA fB nB i) = cpE fA fB nB (i + 1) := by
  funext x
  have hx := Nat.div_add_mod x nB
  have hm := Nat.mod_lt x (by omega : 0 < nB)
  have hc : nB * (x / nB) = x / nB * nB := Nat.mul_comm _ _
  have hi : (i + 1) * nB = i * nB + nB := by rw [Nat.add_mul, Nat.one_mul]
  rcases Nat.lt_trichotomy (x / nB) i with h | h | h
  · have h1 : (x / nB + 1) * nB ≤ i * nB := Nat.mul_le_mul_right nB h
    rw [Nat.add_mul, Nat.one_mul] at h1
    have e1 : decide (x < i * nB) = true := decide_eq_true (by omega)
    have e2 : decide (x < (i + 1) * nB) = true := decide_eq_true (by omega)
    have e3 : decide (i * nB ≤ x) = false := decide_eq_false (by omega)
    split
    · show (cpE fA fB nB i x || (decide (i * nB ≤ x) && decide (x < i * nB + nB) && fB (x - i * nB))) = _
      unfold cpE
      rw [e1, e2, e3]; simp
    · unfold cpE
      rw [e1, e2]
  · have e1 : decide (x < i * nB) = false := decide_eq_false (by rw [h] at hc hx; omega)
    have e2 : decide (x < (i + 1) * nB) = true := decide_eq_true (by rw [h] at hc hx; omega)
    have e3 : decide (i * nB ≤ x) = true := decide_eq_true (by rw [h] at hc hx; omega)
    have e4 : decide (x < i * nB + nB) = true := decide_eq_true (by rw [h] at hc hx; omega)
    have e5 : x - i * nB = x % nB := by rw [h] at hc hx; omega
    split
    · rename_i hf
      show (cpE fA fB nB i x || (decide (i * nB ≤ x) && decide (x < i * nB + nB) && fB (x - i * nB))) = _
      unfold cpE
      rw [e1, e2, e3, e4, e5, h, hf]; simp
    · rename_i hf
      have hf : fA i = false := by cases h : fA i with | true => exact absurd h hf | false => rfl
      unfold cpE
      rw [e1, e2, h, hf]; simp
  · have h1 : (i + 1) * nB ≤ x / nB * nB := Nat.mul_le_mul_right nB h
    have e1 : decide (x < i * nB) = false := decide_eq_false (by omega)
    have e2 : decide (x < (i + 1) * nB) = false := decide_eq_false (by omega)
    have e4 : decide (x < i * nB + nB) = false := decide_eq_false (by omega)
    split
    · show (cpE fA fB nB i x || (decide (i * nB ≤ x) && decide (x < i * nB + nB) && fB (x - i * nB))) = _
      unfold cpE
      rw [e1, e2, e4]; simp
    · unfold cpE
      rw [e1, e2]
