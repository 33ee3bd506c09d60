def RwA (m : Mem) (d : Nat) (K : Nat → Prop) : Prop := Bo m d ∧ ∀ a, a < 288 → (At m d a ↔ K a)
theorem RwA.cg {m m' : Mem} {d : Nat} {K : Nat → Prop} (h : RwA m d K) (hf : ∀ j, j < 288 * (d + 1) → m' 102 j = m 102 j) : RwA m' d K :=
  ⟨fun a ha => by rw [hf _ (by omega)]; exact h.1 a ha, fun a ha => by unfold At; rw [hf _ (by omega)]; exact h.2 a ha⟩
theorem RwA.inr {m : Mem} {d n : Nat} {w : List Nat} {K : Nat → Prop} (h : RwA m d K) (hK : KN n w K) (hn : n ≤ 32) (hwl : w.length ≤ 8) (a : Nat) : InR m d a ↔ K a := by
  constructor
  · rintro ⟨ha, hA⟩; exact (h.2 a ha).mp hA
  · intro ha
    have := hK a ha
    have hlt : a < 288 := by omega
    exact ⟨hlt, (h.2 a hlt).mpr ha⟩
def FM (way : Nat) (L : ArL) (w : List Nat) (δ : Nat → Nat) (m : Mem) : List Nat → Nat → Prop
  | [] => fun x => RwA m 0 (CpR way L w δ false []) ∧ m 103 0 = pI x
  | y :: ρ => fun x => RwA m (ρ.length + 1) (CpR way L w δ false (y :: ρ)) ∧ m 103 (ρ.length + 1) = pI x ∧ m 104 ρ.length = nI y ∧ FM way L w δ m ρ (y + 1)
theorem FM.cg {way : Nat} {L : ArL} {w : List Nat} {δ : Nat → Nat} {m m' : Mem} : ∀ {ρ : List Nat} {x : Nat}, FM way L w δ m ρ x → (∀ j, j < 288 * (ρ.length + 1) → m' 102 j = m 102 j) → (∀ j, j < ρ.length + 1 → m' 103 j = m 103 j) → (∀ j, j < ρ.length → m' 104 j = m 104 j) → FM way L w δ m' ρ x
  | [], x, h, h1, h2, h3 => ⟨h.1.cg h1, by rw [h2 0 (by show 0 < 0 + 1; omega)]; exact h.2⟩
  | y :: ρ, x, h, h1, h2, h3 => by
    have e : (y :: ρ).length = ρ.length + 1 := rfl
    rw [e] at h1 h2 h3
    obtain ⟨a, b, c, d⟩ := h
    exact ⟨a.cg h1, by rw [h2 _ (by omega)]; exact b, by rw [h3 _ (by omega)]; exact c, FM.cg d (fun j hj => h1 j (by omega)) (fun j hj => h2 j (by omega)) (fun j hj => h3 j (by omega))⟩
theorem FM.set {way : Nat} {L : ArL} {w : List Nat} {δ : Nat → Nat} {m m' : Mem} {ρ : List Nat} {x x' : Nat} (h : FM way L w δ m ρ x) (h1 : ∀ j, j < 288 * (ρ.length + 1) → m' 102 j = m 102 j) (h2 : ∀ j, j < ρ.length → m' 103 j = m 103 j) (hx : m' 103 ρ.length = pI x') (h3 : ∀ j, j < ρ.length → m' 104 j = m 104 j) : FM way L w δ m' ρ x' := by
  cases ρ with
  | nil => exact ⟨h.1.cg h1, hx⟩
  | cons y ρ =>
    have e : (y :: ρ).length = ρ.length + 1 := rfl
    rw [e] at h1 h2 h3 hx
    obtain ⟨a, b, c, d⟩ := h
    exact ⟨a.cg h1, hx, by rw [h3 _ (by omega)]; exact c, FM.cg d (fun j hj => h1 j (by omega)) (fun j hj => h2 j (by omega)) (fun j hj => h3 j (by omega))⟩
theorem FM.row {way : Nat} {L : ArL} {w : List Nat} {δ : Nat → Nat} {m : Mem} {ρ : List Nat} {x : Nat} (h : FM way L w δ m ρ x) : RwA m ρ.length (CpR way L w δ false ρ) ∧ m 103 ρ.length = pI x := by
  cases ρ with
  | nil => exact h
  | cons y ρ => exact ⟨h.1, h.2.1⟩
def PM (m : Mem) : List Nat → Prop
  | [] => True
  | y :: ρ => m 104 ρ.length = nI y ∧ PM m ρ
theorem PM.cg {m m' : Mem} : ∀ {ρ : List Nat}, PM m ρ → (∀ j, j < ρ.length → m' 104 j = m 104 j) → PM m' ρ
  | [], _, _ => trivial
  | y :: ρ, h, hf => ⟨by rw [hf _ (by show ρ.length < ρ.length + 1; omega)]; exact h.1, PM.cg h.2 (fun j hj => hf j (by show j < ρ.length + 1; omega))⟩
theorem walk_inv {vi an : List Nat → Bool} {S : Nat} (h3 : ∀ y ρ, vi (y :: ρ) = true → vi ρ = true) : ∀ F ρ x k res, walk vi an S F ρ x k = some res → vi ρ = true → k ≤ S → vi res.2 = true ∧ res.1 ≤ S ∧ k ≤ res.1 := by
  intro F
  induction F with
  | zero => intro ρ x k res h; cases h
  | succ F ih =>
    intro ρ x k res h hv hk
    rw [walk_s] at h
    by_cases c : S ≤ k
    · rw [if_pos c] at h
      have e := Option.some.inj h
      rw [← e]
      exact ⟨hv, hk, Nat.le_refl _⟩
    · rw [if_neg c] at h
      by_cases c8 : x < 8
      · rw [if_pos c8] at h
        cases hd : vi (x :: ρ) with
        | true =>
          rw [hd, if_pos rfl] at h
          cases ha : an (x :: ρ) with
          | true =>
            rw [ha, if_pos rfl] at h
            obtain ⟨r1, r2, r3⟩ := ih _ _ _ _ h hd (by omega)
            exact ⟨r1, r2, by omega⟩
          | false =>
            rw [ha, if_neg (by simp)] at h
            exact ih _ _ _ _ h hd (by omega)
        | false =>
          rw [hd, if_neg (by simp)] at h
          exact ih _ _ _ _ h hv hk
      · rw [if_neg c8] at h
        cases ρ with
        | nil =>
          have e := Option.some.inj h
          rw [← e]
          exact ⟨hv, hk, Nat.le_refl _⟩
        | cons y ρ => exact ih _ _ _ _ h (h3 y ρ hv) hk
