theorem pot_wU {u : Bool} {n : Nat} {L : ArL} {w : List Nat} {δ : Nat → Nat} {ch : Bool} (hok : DOK n L) (hn : n ≤ 32) (hw : w.length ≤ 8) (hu : Acy upr L) (hl : Acy lwr L) : ∃ φ : Nat → Nat, (∀ x a b, Sy (wU u) L w δ ch x a b → φ a < φ b) ∧ ∀ a, φ a ≤ 287 := by
  have hr : ∃ r : Nat → Nat, (∀ s, s < n → r s < n) ∧ ∀ q, q ∈ L → rdW (wU u) q = 8 → r (too q.1) < r (fr q.1) := by
    cases u with
    | false =>
      obtain ⟨r, _, r2, r3⟩ := acy_bd hu hok
      exact ⟨r, r2, fun q hq h8 => r3 q hq h8⟩
    | true =>
      obtain ⟨r, _, r2, r3⟩ := acy_bd hl hok
      exact ⟨r, r2, fun q hq h8 => r3 q hq h8⟩
  obtain ⟨r, r2, r3⟩ := hr
  refine ⟨fun a => if a % 32 < n ∧ a / 32 ≤ 8 then 32 * (a / 32) + (31 - r (a % 32)) else 0, fun x a b h => ?_, fun a => ?_⟩
  · obtain ⟨c, ⟨p, hp, hE⟩, _⟩ := h
    rcases hE with ⟨q, hq, h1, rfl, rfl, _⟩ | ⟨q, hq, h1, rfl, rfl, _⟩ | ⟨s, hs, h1, _⟩
    · have f1 := (hok q hq).2.1
      have t1 := (hok q hq).2.2.1
      have e1 := r2 _ f1
      have e2 := r2 _ t1
      have h8 : rdW (wU u) q = 8 := by
        unfold cSt at h1
        rw [if_neg (wU_lt u).1] at h1
        split at h1
        · assumption
        · cases h1
      have e3 := r3 q hq h8
      show (if (32 * p + fr q.1) % 32 < n ∧ (32 * p + fr q.1) / 32 ≤ 8 then 32 * ((32 * p + fr q.1) / 32) + (31 - r ((32 * p + fr q.1) % 32)) else 0) < (if (32 * p + too q.1) % 32 < n ∧ (32 * p + too q.1) / 32 ≤ 8 then 32 * ((32 * p + too q.1) / 32) + (31 - r ((32 * p + too q.1) % 32)) else 0)
      rw [show (32 * p + fr q.1) % 32 = fr q.1 by omega, show (32 * p + fr q.1) / 32 = p by omega, show (32 * p + too q.1) % 32 = too q.1 by omega, show (32 * p + too q.1) / 32 = p by omega, if_pos ⟨f1, by omega⟩, if_pos ⟨t1, by omega⟩]
      omega
    · have f1 := (hok q hq).2.1
      have t1 := (hok q hq).2.2.1
      have e1 := r2 _ f1
      have hpl := cRd_lt h1
      show (if (32 * p + fr q.1) % 32 < n ∧ (32 * p + fr q.1) / 32 ≤ 8 then 32 * ((32 * p + fr q.1) / 32) + (31 - r ((32 * p + fr q.1) % 32)) else 0) < (if (32 * (p + 1) + too q.1) % 32 < n ∧ (32 * (p + 1) + too q.1) / 32 ≤ 8 then 32 * ((32 * (p + 1) + too q.1) / 32) + (31 - r ((32 * (p + 1) + too q.1) % 32)) else 0)
      rw [show (32 * p + fr q.1) % 32 = fr q.1 by omega, show (32 * p + fr q.1) / 32 = p by omega, show (32 * (p + 1) + too q.1) % 32 = too q.1 by omega, show (32 * (p + 1) + too q.1) / 32 = p + 1 by omega, if_pos ⟨f1, by omega⟩, if_pos ⟨t1, by omega⟩]
      omega
    · exact absurd (cSk_lt h1).2.2 (wU_lt u).1
  · show (if a % 32 < n ∧ a / 32 ≤ 8 then 32 * (a / 32) + (31 - r (a % 32)) else 0) ≤ 287
    split <;> omega
