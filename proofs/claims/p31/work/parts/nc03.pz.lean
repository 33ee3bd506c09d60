def CI (u : Bool) (L : ArL) (w : List Nat) (δ : Nat → Nat) (d : Nat) (m0 m : Mem) (fl : Bool) : Prop := ORw d m0 m ∧ Bo m d ∧ (∀ a, a < 288 → At m0 d a → At m d a) ∧ (∀ P : Nat → Prop, (∀ a, a < 288 → At m0 d a → P a) → (∀ a b, P a → Sy (wU u) L w δ false 8 a b → P b) → ∀ a, a < 288 → At m d a → P a) ∧ (fl = false → m = m0) ∧ (fl = true → ∃ a, a < 288 ∧ ¬ At m0 d a ∧ At m d a)
theorem CI.rf {u : Bool} {L : ArL} {w : List Nat} {δ : Nat → Nat} {d : Nat} {m : Mem} (h : Bo m d) : CI u L w δ d m m false := ⟨ORw.rf, h, fun _ _ h => h, fun P h0 _ => h0, fun _ => rfl, fun h => by cases h⟩
theorem CI.up {u : Bool} {L : ArL} {w : List Nat} {δ : Nat → Nat} {d p r n : Nat} {m0 m : Mem} {fl : Bool} {q : Nat × Nat} (h : CI u L w δ d m0 m fl) (hok : DOK n L) (hn : n ≤ 32) (hwl : w.length ≤ 8) (hp : p ≤ w.length) (hq : q ∈ L) (hs : syW (wU u) q = 8) (hr : bhd u w q p = some r) (hA : At m d (32 * p + fr q.1)) (hδ : δ (32 * r + too q.1) < 1000000000) (hne : ¬ At m d (32 * r + too q.1)) : CI u L w δ d m0 (mup m 102 (288 * d + (32 * r + too q.1)) (nI 1)) true := by
  obtain ⟨h1, h2, h3, h4, h5, h6⟩ := h
  have hr2 := (bhd_eg hq hp hr).1
  have f1 := (hok q hq).2.1
  have t1 := (hok q hq).2.2.1
  have hb : 32 * r + too q.1 < 288 := by omega
  refine ⟨h1.up hb, h2.up, fun a ha hA0 => At.up.mpr (Or.inr (h3 a ha hA0)), fun P h0 hcl a ha hA' => ?_, fun h => (by cases h), fun _ => ⟨_, hb, fun hA0 => hne (h3 _ hb hA0), At.up.mpr (Or.inl rfl)⟩⟩
  rcases At.up.mp hA' with e | e
  · rw [e]
    refine hcl _ _ (h4 P h0 hcl _ (by omega) hA) ?_
    rw [← hs]
    exact sy_of hq hp hr hδ
  · exact h4 P h0 hcl a ha e
