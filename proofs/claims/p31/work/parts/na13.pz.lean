abbrev rpD (n : Nat) (f : Nat → Bool) (L : ArL) : ArL := (([] ++ shA 0 L) ++ [(pkA n 8 8 0, 0)]) ++ ldA f 0 n n
theorem Clo.st {sel : Nat × Nat → Bool} {L : ArL} {v0 v : Int32} (h : Clo sel L v0 v) (hl : lt32 L) {q : Nat × Nat} (hq : q ∈ L) (hs : sel q = true) (hv : tb v (fr q.1) = true) : tb v (too q.1) = true := by
  obtain ⟨a, ha, hb, hr⟩ := (h _ (hl q hq).1).mp hv
  exact (h _ (hl q hq).2).mpr ⟨a, ha, hb, hr.st ⟨q, hq, hs, rfl, rfl⟩⟩
theorem Clo.z {sel : Nat × Nat → Bool} {L : ArL} {v : Int32} (h : Clo sel L (nI 1) v) : tb v 0 = true := (h 0 (by omega)).mpr ⟨0, by omega, by decide +kernel, Rc.rf⟩
def rpR (v : Int32) (r : Nat → Nat) (n s : Nat) : Nat := if s = n then 33 else if tb v s = true then r s else r s + 34
theorem rp_one {g : Nat → Nat} {sel : Nat × Nat → Bool} {n : Nat} {L : ArL} {f : Nat → Bool} {v : Int32} {r : Nat → Nat} (hsel : ∀ q, q ∈ L → g q.1 = 8 → sel q = true) (hc : Clo sel L (nI 1) v) (hn : n ≤ 32) (hok : DOK n L) (hz : v &&& eB f n = nI 0) (h1 : ∀ s, r s ≤ n) (h3 : ∀ q, q ∈ L → g q.1 = 8 → r (too q.1) < r (fr q.1)) :
    (∀ q, q ∈ L → g q.1 = 8 → rpR v r n (too q.1) < rpR v r n (fr q.1)) ∧ (1 ≤ n → rpR v r n 0 < rpR v r n n) ∧ ∀ s, s < n → f s = true → rpR v r n n < rpR v r n s := by
  refine ⟨fun q hq h8 => ?_, fun hn1 => ?_, fun s hs hf => ?_⟩
  · have a1 := (hok q hq).2.1
    have a2 := (hok q hq).2.2.1
    have a3 := h3 q hq h8
    have a4 := h1 (too q.1)
    unfold rpR
    rw [if_neg (by omega : ¬ too q.1 = n), if_neg (by omega : ¬ fr q.1 = n)]
    by_cases hv : tb v (fr q.1) = true
    · rw [if_pos hv, if_pos (hc.st (hok.l32 hn) hq (hsel q hq h8) hv)]; exact a3
    · rw [if_neg hv]
      split <;> omega
  · have a4 := h1 0
    unfold rpR
    rw [if_neg (by omega : ¬ 0 = n), if_pos rfl, if_pos hc.z]; omega
  · unfold rpR
    have : tb v s = false := by
      cases hv : tb v s with
      | false => rfl
      | true => exact absurd ⟨hv, by rw [tb_eBin hn hs]; exact hf⟩ (and_ne.mp hz s (by omega))
    rw [if_pos rfl, if_neg (by omega : ¬ s = n), if_neg (by rw [this]; simp)]; omega
theorem rp_af {n : Nat} {f : Nat → Bool} {L : ArL} {vu vl : Int32} (hA : VM (n, f, L)) (hu : Clo (selG true) L (nI 1) vu) (hl : Clo (selG false) L (nI 1) vl) (zu : vu &&& eB f n = nI 0) (zl : vl &&& eB f n = nI 0) : DOK (n + 1) (rpD n f L) ∧ Acy upr (rpD n f L) ∧ Acy lwr (rpD n f L) := by
  obtain ⟨a1, a2, a3, a4, a5, a6, a7⟩ := hA
  have a1 : 1 ≤ n := a1
  have a2 : n ≤ 32 := a2
  have a5 : DOK n L := a5
  obtain ⟨ru, ru1, _, ru3⟩ := acy_bd a6 a5
  obtain ⟨rl, rl1, _, rl3⟩ := acy_bd a7 a5
  obtain ⟨u1, u2, u3⟩ := rp_one (g := upr) (fun q _ h8 => decide_eq_true h8) hu a2 a5 zu ru1 ru3
  obtain ⟨l1, l2, l3⟩ := rp_one (g := lwr) (fun q _ h8 => decide_eq_true h8) hl a2 a5 zl rl1 rl3
  refine AF.all (n := n + 1) (ru := rpR vu ru n) (rl := rpR vl rl n) (by omega) ?_
  intro q hq
  rcases List.mem_append.mp hq with hq | hq
  · rcases List.mem_append.mp hq with hq | hq
    · rw [List.nil_append] at hq
      refine shA_af (n := n + 1) a5 (by omega) ?_ ?_ q hq
      · intro x hx h8
        rw [Nat.zero_add, Nat.zero_add]
        exact u1 x hx h8
      · intro x hx h8
        rw [Nat.zero_add, Nat.zero_add]
        exact l1 x hx h8
    · rw [List.mem_singleton] at hq
      exact ⟨n, 8, 8, 0, 0, hq, by omega, by omega, by omega, by omega, by omega, fun _ => u2 a1, fun _ => l2 a1⟩
  · refine ldA_af (n := n + 1) (by omega) (by omega) ?_ q hq
    intro s hs hf
    rw [Nat.zero_add]
    exact ⟨u3 s hs hf, l3 s hs hf⟩
theorem rp_len {n : Nat} {f : Nat → Bool} {L : ArL} (h1 : L.length ≤ 160) (h2 : n ≤ 32) : (rpD n f L).length ≤ 352 := by
  have := ldA_len f 0 n n
  rw [List.length_append, List.length_append, List.length_append, shA_len]
  show 0 + _ + 1 + _ ≤ 352
  omega
