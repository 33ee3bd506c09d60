def ORw (d : Nat) (m m' : Mem) : Prop := (∀ c, c ≠ 102 → m' c = m c) ∧ ∀ j, (j < 288 * d ∨ 288 * d + 288 ≤ j) → m' 102 j = m 102 j
theorem ORw.rf {d : Nat} {m : Mem} : ORw d m m := ⟨fun _ _ => rfl, fun _ _ => rfl⟩
theorem ORw.tr {d : Nat} {m m' m'' : Mem} (h : ORw d m m') (h2 : ORw d m' m'') : ORw d m m'' := ⟨fun c hc => by rw [h2.1 c hc, h.1 c hc], fun j hj => by rw [h2.2 j hj, h.2 j hj]⟩
theorem ORw.up {d a : Nat} {m m' : Mem} {x : Int32} (h : ORw d m m') (ha : a < 288) : ORw d m (mup m' 102 (288 * d + a) x) := ⟨fun c hc => by rw [mup_r hc, h.1 c hc], fun j hj => by rw [mup_j (by omega), h.2 j hj]⟩
def Bo (m : Mem) (d : Nat) : Prop := ∀ a, a < 288 → m 102 (288 * d + a) = nI 0 ∨ m 102 (288 * d + a) = nI 1
def At (m : Mem) (d a : Nat) : Prop := m 102 (288 * d + a) = nI 1
theorem Bo.up {d a e : Nat} {m : Mem} (h : Bo m d) : Bo (mup m 102 (288 * e + a) (nI 1)) d := by
  intro b hb
  rw [mup_if]
  split
  · exact Or.inr rfl
  · exact h b hb
theorem At.up {d a b : Nat} {m : Mem} : At (mup m 102 (288 * d + a) (nI 1)) d b ↔ b = a ∨ At m d b := by
  unfold At
  rw [mup_if]
  constructor
  · intro h
    split at h
    · left; omega
    · exact Or.inr h
  · rintro (h | h)
    · rw [if_pos (by omega)]
    · split
      · rfl
      · exact h
def MLk (m : Mem) (i n : Nat) (f : Nat → Bool) (L : ArL) (w : List Nat) (δ : Nat → Nat) : Prop := MSt m i n f L w ∧ RT m δ
theorem MLk.cg {m m' : Mem} {i n : Nat} {f : Nat → Bool} {L : ArL} {w : List Nat} {δ : Nat → Nat} (h : MLk m i n f L w δ) (hf : ∀ k, 71 ≤ k → k < 100 → m' k = m k) (h2 : m' 70 2 = m 70 2) : MLk m' i n f L w δ :=
  ⟨h.1.cg (fun k a b => hf k a (by omega)) h2, fun a ha => by rw [hf 99 (by omega) (by omega)]; exact h.2 a ha⟩
theorem sy_of {u : Bool} {L : ArL} {w : List Nat} {δ : Nat → Nat} {q : Nat × Nat} {p r : Nat} (hq : q ∈ L) (hp : p ≤ w.length) (hr : bhd u w q p = some r) (hδ : δ (32 * r + too q.1) < 1000000000) : Sy (wU u) L w δ false (syW (wU u) q) (32 * p + fr q.1) (32 * r + too q.1) := ⟨q.2, (bhd_eg hq hp hr).2.1, hδ, fun h => by cases h⟩
