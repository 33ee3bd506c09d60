theorem mend_ex {n : Nat} {f : Nat → Bool} {L : ArL} {w : List Nat} {δ : Nat → Nat} (hV : VM (n, f, L)) (hwl : w.length ≤ 8) (hδ : IsD (eG 2 L w) (En n f w) δ) (h0 : δ 0 < 1000000000) : ∃ vi an : List Nat → Bool, WV vi an ∧ (∀ ρ, vi ρ = true ↔ ∃ b, SdR 2 L w δ true ρ b) ∧ (∀ ρ, an ρ = true ↔ AnK n f w (CpR 2 L w δ true ρ)) := by
  obtain ⟨a1, a2, a3, a4, a5, a6, a7⟩ := hV
  obtain ⟨vi, an, hvi, han⟩ := va_ex 2 n f L w δ true
  obtain ⟨φ, hs, hφ⟩ := pot_w2 (δ := δ) a5 a2 hwl a6
  exact ⟨vi, an, wv_of a5 hδ h0 hvi han hs hφ, hvi, han⟩
