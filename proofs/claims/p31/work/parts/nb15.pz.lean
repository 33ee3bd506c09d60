def MP (m : Mem) (s : XS) (d' : Nat → Nat → Option Nat) : Prop := m 70 35 = nI s.1.length ∧ (∀ i p, s.1[i]? = some p → m 92 i = p.1 ∧ m 93 i = p.2) ∧ ∀ k x, k < s.1.length → x < 8 → m 94 (8 * k + x) = an (d' k x)
def fst1 (p : Nat → Bool) : Nat → Nat → Nat
  | 0, k => k
  | d + 1, k => if p k = true then k else fst1 p d (k + 1)
theorem fst1_spec {p : Nat → Bool} : ∀ d k, k ≤ fst1 p d k ∧ fst1 p d k ≤ k + d ∧ (fst1 p d k < k + d → p (fst1 p d k) = true) ∧ ∀ j, k ≤ j → j < fst1 p d k → p j = false
  | 0, k => ⟨Nat.le_refl _, Nat.le_refl _, fun h => absurd h (by show ¬ k < k + 0; omega), fun j h1 h2 => absurd h2 (by show ¬ j < k; omega)⟩
  | d + 1, k => by
    rw [fst1]
    by_cases c : p k = true
    · rw [if_pos c]
      exact ⟨Nat.le_refl _, by omega, fun _ => c, fun j h1 h2 => by omega⟩
    · rw [if_neg c]
      obtain ⟨h1, h2, h3, h4⟩ := fst1_spec (p := p) d (k + 1)
      refine ⟨by omega, by omega, fun h => h3 (by omega), fun j j1 j2 => ?_⟩
      by_cases e : j = k
      · rw [e]
        cases hp : p k with
        | false => rfl
        | true => exact absurd hp c
      · exact h4 j (by omega) j2
abbrev Sg : Type := Option Nat × List (Option Nat)
def rpF (sig : Nat → Sg) (U : Nat → Bool) (i : Nat) : Nat := fst1 (fun j => U j && decide (sig j = sig i)) i 0
def nwF (sig : Nat → Sg) (U : Nat → Bool) (i : Nat) : Bool := U i && decide (rpF sig U i = i)
def nmF (sig : Nat → Sg) (U : Nat → Bool) (i : Nat) : Nat := cnt (nwF sig U) (rpF sig U i)
theorem rp_spec {sig : Nat → Sg} {U : Nat → Bool} {i : Nat} (hi : U i = true) : rpF sig U i ≤ i ∧ U (rpF sig U i) = true ∧ sig (rpF sig U i) = sig i ∧ ∀ j, j < rpF sig U i → U j = true → sig j ≠ sig i := by
  obtain ⟨_, h2, h3, h4⟩ := fst1_spec (p := fun j => U j && decide (sig j = sig i)) i 0
  have h2 : rpF sig U i ≤ 0 + i := h2
  have h3 : rpF sig U i < 0 + i → (U (rpF sig U i) && decide (sig (rpF sig U i) = sig i)) = true := h3
  have h4 : ∀ j, 0 ≤ j → j < rpF sig U i → (U j && decide (sig j = sig i)) = false := h4
  have hp : U (rpF sig U i) = true ∧ sig (rpF sig U i) = sig i := by
    by_cases c : rpF sig U i < i
    · have := h3 (by omega)
      rw [Bool.and_eq_true, decide_eq_true_eq] at this
      exact this
    · have e : rpF sig U i = i := by omega
      rw [e]; exact ⟨hi, rfl⟩
  refine ⟨by omega, hp.1, hp.2, fun j hj hU he => ?_⟩
  have := h4 j (Nat.zero_le _) hj
  rw [hU, decide_eq_true he] at this
  cases this
theorem rp_of {sig : Nat → Sg} {U : Nat → Bool} {i k : Nat} (hi : U i = true) (hk : U k = true) (he : sig k = sig i) (hki : k ≤ i) (hf : ∀ j, j < k → U j = true → sig j ≠ sig i) : rpF sig U i = k := by
  obtain ⟨h1, h2, h3, h4⟩ := rp_spec (sig := sig) hi
  rcases Nat.lt_trichotomy (rpF sig U i) k with h | h | h
  · exact absurd h3 (hf _ h h2)
  · exact h
  · exact absurd he (h4 k h hk)
theorem rp_eq {sig : Nat → Sg} {U : Nat → Bool} {i j : Nat} (hi : U i = true) (hj : U j = true) : rpF sig U i = rpF sig U j ↔ sig i = sig j := by
  obtain ⟨a1, a2, a3, a4⟩ := rp_spec (sig := sig) hi
  obtain ⟨b1, b2, b3, b4⟩ := rp_spec (sig := sig) hj
  constructor
  · intro h; rw [← a3, h, b3]
  · intro h
    rcases Nat.lt_trichotomy (rpF sig U i) (rpF sig U j) with c | c | c
    · exact absurd (by rw [a3, h]) (b4 _ c a2)
    · exact c
    · exact absurd (by rw [b3, h]) (a4 _ c b2)
theorem nw_rp {sig : Nat → Sg} {U : Nat → Bool} {i : Nat} (hi : U i = true) : nwF sig U (rpF sig U i) = true := by
  obtain ⟨a1, a2, a3, a4⟩ := rp_spec (sig := sig) hi
  unfold nwF
  rw [a2, decide_eq_true ((rp_eq a2 hi).mpr a3)]; rfl
theorem nw_iff {sig : Nat → Sg} {U : Nat → Bool} {i : Nat} : nwF sig U i = true ↔ U i = true ∧ rpF sig U i = i := by
  unfold nwF
  rw [Bool.and_eq_true, decide_eq_true_eq]
theorem nw_iff' {sig : Nat → Sg} {U : Nat → Bool} {i : Nat} : nwF sig U i = true ↔ U i = true ∧ ∀ j, j < i → U j = true → sig j ≠ sig i := by
  rw [nw_iff]
  constructor
  · rintro ⟨h1, h2⟩
    obtain ⟨_, _, _, a4⟩ := rp_spec (sig := sig) h1
    rw [h2] at a4
    exact ⟨h1, a4⟩
  · rintro ⟨h1, h2⟩
    exact ⟨h1, rp_of h1 h1 rfl (Nat.le_refl _) h2⟩
theorem cnt_at {b : Nat → Bool} {i j : Nat} (hi : b i = true) (hij : i < j) : cnt b i < cnt b j := by
  have : ∀ k, cnt b i + 1 ≤ cnt b (i + 1 + k) := by
    intro k
    induction k with
    | zero =>
      show cnt b i + 1 ≤ cnt b i + (if b i = true then 1 else 0)
      rw [if_pos hi]; exact Nat.le_refl _
    | succ k ih =>
      show cnt b i + 1 ≤ cnt b (i + 1 + k) + (if b (i + 1 + k) = true then 1 else 0)
      omega
  have := this (j - (i + 1))
  rw [show i + 1 + (j - (i + 1)) = j by omega] at this
  omega
theorem nm_lt {sig : Nat → Sg} {U : Nat → Bool} {i j : Nat} (hi : U i = true) (hj : U j = true) : nmF sig U i < nmF sig U j ↔ rpF sig U i < rpF sig U j := by
  unfold nmF
  constructor
  · intro h
    rcases Nat.lt_trichotomy (rpF sig U i) (rpF sig U j) with c | c | c
    · exact c
    · rw [c] at h; exact absurd h (Nat.lt_irrefl _)
    · have := cnt_at (nw_rp (sig := sig) hj) c; omega
  · intro h; exact cnt_at (nw_rp (sig := sig) hi) h
theorem nm_eq {sig : Nat → Sg} {U : Nat → Bool} {i j : Nat} (hi : U i = true) (hj : U j = true) : nmF sig U i = nmF sig U j ↔ sig i = sig j := by
  rw [← rp_eq (sig := sig) hi hj]
  have h1 := nm_lt (sig := sig) hi hj
  have h2 := nm_lt (sig := sig) hj hi
  omega
theorem nm_ltc {sig : Nat → Sg} {U : Nat → Bool} {i c : Nat} (hi : U i = true) (hic : i < c) : nmF sig U i < cnt (nwF sig U) c := cnt_at (nw_rp (sig := sig) hi) (by have := (rp_spec (sig := sig) hi).1; omega)
theorem cnt_hit {b : Nat → Bool} : ∀ {n g : Nat}, g < cnt b n → ∃ i, i < n ∧ b i = true ∧ cnt b i = g
  | 0, g, h => absurd h (Nat.not_lt_zero _)
  | n + 1, g, h => by
    rw [cnt] at h
    by_cases c : g < cnt b n
    · obtain ⟨i, h1, h2, h3⟩ := cnt_hit c
      exact ⟨i, by omega, h2, h3⟩
    · by_cases hb : b n = true
      · rw [if_pos hb] at h
        exact ⟨n, by omega, hb, by omega⟩
      · rw [if_neg hb] at h; omega
theorem nm_nw {sig : Nat → Sg} {U : Nat → Bool} {i : Nat} (h : nwF sig U i = true) : nmF sig U i = cnt (nwF sig U) i := by
  unfold nmF
  rw [(nw_iff.mp h).2]
