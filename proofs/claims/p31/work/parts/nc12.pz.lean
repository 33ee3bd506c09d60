theorem TBs.cg {way : Nat} {L : ArL} {w : List Nat} {δ : Nat → Nat} {m m' : Mem} {ρ : List Nat} (h : TBs way L w δ m ρ) (hf : m' 100 = m 100) : TBs way L w δ m' ρ := by
  obtain ⟨V, h1, h2⟩ := h
  exact ⟨V, h1.cg hf, h2⟩
theorem walk_one {vi an : List Nat → Bool} (hv : WV vi an) : ∀ M F ρ res, F ≤ M → walk vi an 1 F ρ 0 (if an ρ = true then 1 else 0) = some res → vi ρ = true → 1 ≤ res.1 := by
  intro M
  induction M with
  | zero =>
    intro F ρ res hF hw
    rw [show F = 0 by omega] at hw
    cases hw
  | succ M ih =>
    intro F ρ res hF hw hv0
    cases ha : an ρ with
    | true =>
      rw [ha, if_pos rfl] at hw
      exact (walk_inv hv.2.2 F ρ 0 1 res hw hv0 (Nat.le_refl _)).2.2
    | false =>
      rw [ha, if_neg (by simp)] at hw
      obtain ⟨y, hy, hyl⟩ : ∃ y, (y < 8 ∧ vi (y :: ρ) = true) ∧ ∀ z, z < y → ¬ (z < 8 ∧ vi (z :: ρ) = true) := by
        apply first_ex
        rcases hv.2.1 ρ hv0 with h | ⟨x, hx, hxv⟩
        · rw [ha] at h; cases h
        · exact ⟨x, hx, hxv⟩
      obtain ⟨hy8, hyv⟩ := hy
      obtain ⟨F1, f1, f2⟩ := walk_skip (by omega : 0 < 1) y F 0 res (by omega) (fun z _ z2 => by
        cases h : vi (z :: ρ) with
        | false => rfl
        | true => exact absurd ⟨by omega, h⟩ (hyl z (by omega))) hw
      rw [show 0 + y = y by omega] at f2
      cases F1 with
      | zero => cases f2
      | succ F1 =>
        rw [walk_s, if_neg (by omega), if_pos hy8, if_pos hyv] at f2
        exact ih F1 (y :: ρ) res (by omega) f2 hyv
