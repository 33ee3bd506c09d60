theorem eg_le {way n a c b y : Nat} {L : ArL} {w : List Nat} (hok : DOK n L) (h : Eg way L w a c b y) : y ≤ 8 := by
  obtain ⟨p, hp, hE⟩ := h
  rcases hE with ⟨q, hq, _, _, _, e⟩ | ⟨q, hq, _, _, _, e⟩ | ⟨s, hs, _, _, _, e⟩
  · rw [e]; exact syW_le (hok q hq)
  · rw [e]; exact syW_le (hok q hq)
  · omega
theorem sdr_fin {way : Nat} {L : ArL} {w : List Nat} {δ : Nat → Nat} {ch : Bool} (h0 : δ 0 < 1000000000) : ∀ {ρ : List Nat} {b : Nat}, SdR way L w δ ch ρ b → δ b < 1000000000
  | [], b, h => by
    have h : b = 0 := h
    rw [h]; exact h0
  | _ :: _, b, h => by
    obtain ⟨a, _, c, _, hw⟩ := h
    exact hw.1
theorem wv_goes {way n : Nat} {f : Nat → Bool} {L : ArL} {w : List Nat} {δ : Nat → Nat} {ch : Bool} {vi an : List Nat → Bool} (hok : DOK n L) (hδ : IsD (eG way L w) (En n f w) δ) (h0 : δ 0 < 1000000000) (hvi : ∀ ρ, vi ρ = true ↔ ∃ b, SdR way L w δ ch ρ b) (han : ∀ ρ, an ρ = true ↔ AnK n f w (CpR way L w δ ch ρ)) (ρ : List Nat) (h : vi ρ = true) : an ρ = true ∨ ∃ x, x < 8 ∧ vi (x :: ρ) = true := by
  have key : ∀ N a, CpR way L w δ ch ρ a → δ a < 1000000000 → Wn (eG way L w) (En n f w) N a (δ a) → an ρ = true ∨ ∃ x, x < 8 ∧ vi (x :: ρ) = true := by
    intro N
    induction N with
    | zero =>
      intro a ha _ hw
      obtain ⟨s, s1, s2, s3⟩ := hw.1
      exact Or.inl ((han ρ).mpr ⟨s, s1, s2, by rw [← s3]; exact ha⟩)
    | succ N ih =>
      intro a ha hlt hw
      obtain ⟨c, b, ⟨y, hE⟩, h2, h3, h4⟩ := hδ.nx hw hlt
      have hs : Sy way L w δ ch y a b := ⟨c, hE, h2, fun _ => h3⟩
      have hy := eg_le hok hE
      by_cases e : y = 8
      · subst e
        obtain ⟨a0, a1, a2⟩ := ha
        exact ih b ⟨a0, a1, a2.st hs⟩ h2 h4
      · exact Or.inr ⟨y, by omega, (hvi (y :: ρ)).mpr ⟨b, a, ha, hs⟩⟩
  obtain ⟨b, hb⟩ := (hvi ρ).mp h
  have hlt := sdr_fin h0 hb
  rcases hδ b with ⟨_, ⟨N, hN⟩, _⟩ | ⟨e, _⟩
  · exact key N b ⟨b, hb, Rc.rf⟩ hlt hN
  · omega
theorem wv_less {way : Nat} {L : ArL} {w : List Nat} {δ : Nat → Nat} {ch : Bool} {vi : List Nat → Bool} (hvi : ∀ ρ, vi ρ = true ↔ ∃ b, SdR way L w δ ch ρ b) (y : Nat) (ρ : List Nat) (h : vi (y :: ρ) = true) : vi ρ = true := by
  obtain ⟨b, a, ⟨a0, ha0, _⟩, _⟩ := (hvi (y :: ρ)).mp h
  exact (hvi ρ).mpr ⟨a0, ha0⟩
theorem sdr_pot {way : Nat} {L : ArL} {w : List Nat} {δ : Nat → Nat} {ch : Bool} {φ : Nat → Nat} (hs : ∀ x a b, Sy way L w δ ch x a b → φ a < φ b) : ∀ {ρ : List Nat} {b : Nat}, SdR way L w δ ch ρ b → ρ.length ≤ φ b
  | [], b, _ => Nat.zero_le _
  | x :: ρ, b, h => by
    obtain ⟨a, ⟨a0, ha0, hr⟩, hx⟩ := h
    have h1 := sdr_pot hs ha0
    have h2 : φ a0 ≤ φ a := hr.cl (S := fun z => φ a0 ≤ φ z) (Nat.le_refl _) (fun z t hz hzt => by have := hs 8 z t hzt; omega)
    have h3 := hs x a b hx
    show ρ.length + 1 ≤ φ b
    omega
theorem wv_of {way n : Nat} {f : Nat → Bool} {L : ArL} {w : List Nat} {δ : Nat → Nat} {ch : Bool} {vi an : List Nat → Bool} {φ : Nat → Nat} (hok : DOK n L) (hδ : IsD (eG way L w) (En n f w) δ) (h0 : δ 0 < 1000000000) (hvi : ∀ ρ, vi ρ = true ↔ ∃ b, SdR way L w δ ch ρ b) (han : ∀ ρ, an ρ = true ↔ AnK n f w (CpR way L w δ ch ρ)) (hs : ∀ x a b, Sy way L w δ ch x a b → φ a < φ b) (hφ : ∀ a, φ a ≤ 287) : WV vi an :=
  ⟨fun ρ h => by
    obtain ⟨b, hb⟩ := (hvi ρ).mp h
    exact Nat.le_trans (sdr_pot hs hb) (hφ b), fun ρ h => wv_goes hok hδ h0 hvi han ρ h, fun y ρ h => wv_less hvi y ρ h⟩
theorem va_ex (way n : Nat) (f : Nat → Bool) (L : ArL) (w : List Nat) (δ : Nat → Nat) (ch : Bool) : ∃ vi an : List Nat → Bool, (∀ ρ, vi ρ = true ↔ ∃ b, SdR way L w δ ch ρ b) ∧ ∀ ρ, an ρ = true ↔ AnK n f w (CpR way L w δ ch ρ) := by
  classical
  exact ⟨fun ρ => decide (∃ b, SdR way L w δ ch ρ b), fun ρ => decide (AnK n f w (CpR way L w δ ch ρ)), fun ρ => decide_eq_true_iff, fun ρ => decide_eq_true_iff⟩
