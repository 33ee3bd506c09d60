def ClZ (way : Nat) (L : ArL) (w : List Nat) (K : Nat → Nat → Prop) (b k : Nat) : Prop := ∀ P : Nat → Nat → Prop, (∀ a j, K a j → P a j) → (∀ a j c b, P a j → Eg way L w a c b 8 → P b (j + c)) → P b k
theorem ClZ.rf {way : Nat} {L : ArL} {w : List Nat} {K : Nat → Nat → Prop} {a j : Nat} (h : K a j) : ClZ way L w K a j := fun P h0 _ => h0 a j h
theorem ClZ.st {way : Nat} {L : ArL} {w : List Nat} {K : Nat → Nat → Prop} {a j c b : Nat} (h : ClZ way L w K a j) (hE : Eg way L w a c b 8) : ClZ way L w K b (j + c) := fun P h0 hs => hs a j c b (h P h0 hs) hE
def SdZ (way : Nat) (L : ArL) (w : List Nat) : List Nat → Nat → Nat → Prop
  | [] => fun b k => b = 0 ∧ k = 0
  | x :: ρ => fun b k => ∃ a c j, ClZ way L w (SdZ way L w ρ) a j ∧ Eg way L w a c b x ∧ k = j + c
abbrev CpZ (way : Nat) (L : ArL) (w : List Nat) (ρ : List Nat) : Nat → Nat → Prop := ClZ way L w (SdZ way L w ρ)
def HV (m : Mem) (cell : Nat) (V : Nat → Nat) (R : Nat → Nat → Prop) : Prop := ∀ a, a < 288 → m cell a = nI (V a) ∧ ((V a = 2000000000) ∨ (V a < 2000000000 ∧ R a (V a)))
theorem HV.top {m : Mem} {cell : Nat} {V : Nat → Nat} {R : Nat → Nat → Prop} (h : HV m cell V R) {a : Nat} (ha : a < 288) : V a ≤ 2000000000 := by
  rcases (h a ha).2 with x | ⟨x, _⟩ <;> omega
theorem HV.cg {m m' : Mem} {cell : Nat} {V : Nat → Nat} {R : Nat → Nat → Prop} (h : HV m cell V R) (hf : m' cell = m cell) : HV m' cell V R := fun a ha => by rw [hf]; exact h a ha
theorem HV.up {m : Mem} {cell : Nat} {V : Nat → Nat} {R : Nat → Nat → Prop} {b v : Nat} (h : HV m cell V R) (hb : b < 288) (hv : v < V b → R b v) : HV (mup m cell b (nI (if v < V b then v else V b))) cell (lwV V b v) R := by
  intro a ha
  obtain ⟨e1, e2⟩ := h a ha
  unfold lwV
  rw [mup_if]
  by_cases e : a = b
  · subst e
    rw [if_pos rfl, if_pos rfl]
    refine ⟨rfl, ?_⟩
    have := h.top ha
    by_cases c : v < V a
    · rw [if_pos c]
      exact Or.inr ⟨by omega, hv c⟩
    · rw [if_neg c]; exact e2
  · rw [if_neg e, if_neg e]
    exact ⟨e1, e2⟩
theorem lwV_id {V : Nat → Nat} {a v : Nat} (h : ¬ v < V a) : lwV V a v = V := by
  funext y
  unfold lwV
  by_cases e : y = a
  · rw [if_pos e, if_neg h, e]
  · rw [if_neg e]
def TBs (way : Nat) (L : ArL) (w : List Nat) (δ : Nat → Nat) (m : Mem) (ρ : List Nat) : Prop := ∃ V, HV m 100 V (CpZ way L w ρ) ∧ ∀ a k, CpZ way L w ρ a k → δ a < 1000000000 → V a ≤ k
