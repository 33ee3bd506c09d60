def walk (vi an : List Nat → Bool) (S : Nat) : Nat → List Nat → Nat → Nat → Option (Nat × List Nat)
  | 0 => fun _ _ _ => none
  | F + 1 => fun ρ x k => if S ≤ k then some (k, ρ) else if x < 8 then (if vi (x :: ρ) = true then walk vi an S F (x :: ρ) 0 (if an (x :: ρ) = true then k + 1 else k) else walk vi an S F ρ (x + 1) k) else match ρ with
    | [] => some (k, [])
    | y :: ρ' => walk vi an S F ρ' (y + 1) k
def wP (S k l : Nat) (β : Bool) : Nat := 288 * (S - k) - if β = true then l else 0
def wM (S k l x : Nat) (β : Bool) : Nat := 18 * wP S k l β + 9 * l + (8 - x)
def WI (vi : List Nat → Bool) (ρ : List Nat) (x : Nat) (β : Bool) : Prop := vi ρ = true ∧ x ≤ 8 ∧ (∀ z, z ∈ ρ → z < 8) ∧ (β = true → ∃ y, x ≤ y ∧ y < 8 ∧ vi (y :: ρ) = true)
def WV (vi an : List Nat → Bool) : Prop := (∀ ρ, vi ρ = true → ρ.length ≤ 287) ∧ (∀ ρ, vi ρ = true → an ρ = true ∨ ∃ x, x < 8 ∧ vi (x :: ρ) = true) ∧ ∀ y ρ, vi (y :: ρ) = true → vi ρ = true
theorem wi_down {vi an : List Nat → Bool} {ρ : List Nat} {x k S : Nat} {β : Bool} (hv : WV vi an) (h : WI vi ρ x β) (hx : x < 8) (hd : vi (x :: ρ) = true) (hk : k < S) : ∃ β', WI vi (x :: ρ) 0 β' ∧ wP S (if an (x :: ρ) = true then k + 1 else k) (ρ.length + 1) β' + 1 ≤ wP S k ρ.length β := by
  obtain ⟨v1, v2, v3⟩ := hv
  obtain ⟨i1, i2, i3, i4⟩ := h
  have hl := v1 _ hd
  have hl2 : ρ.length + 1 ≤ 287 := hl
  have hall : ∀ z, z ∈ x :: ρ → z < 8 := by
    intro z hz
    rcases List.mem_cons.mp hz with e | e
    · rw [e]; exact hx
    · exact i3 z e
  cases ha : an (x :: ρ) with
  | true =>
    refine ⟨false, ⟨hd, by omega, hall, fun h => by cases h⟩, ?_⟩
    rw [if_pos rfl]
    unfold wP
    rw [if_neg (by simp)]
    split <;> omega
  | false =>
    refine ⟨true, ⟨hd, by omega, hall, fun _ => ?_⟩, ?_⟩
    · rcases v2 _ hd with h | ⟨y, hy, hvy⟩
      · rw [ha] at h; cases h
      · exact ⟨y, Nat.zero_le _, hy, hvy⟩
    · rw [if_neg (by simp)]
      unfold wP
      rw [if_pos rfl]
      split <;> omega
theorem wi_next {vi : List Nat → Bool} {ρ : List Nat} {x : Nat} {β : Bool} (h : WI vi ρ x β) (hx : x < 8) (hd : vi (x :: ρ) = false) : WI vi ρ (x + 1) β := by
  obtain ⟨i1, i2, i3, i4⟩ := h
  refine ⟨i1, by omega, i3, fun hb => ?_⟩
  obtain ⟨y, y1, y2, y3⟩ := i4 hb
  refine ⟨y, ?_, y2, y3⟩
  by_cases e : y = x
  · rw [e, hd] at y3; cases y3
  · omega
theorem wi_up {vi an : List Nat → Bool} {ρ : List Nat} {x y k S : Nat} {β : Bool} (hv : WV vi an) (h : WI vi (y :: ρ) x β) (hx : ∀ z, x ≤ z → z < 8 → vi (z :: y :: ρ) = false) : WI vi ρ (y + 1) false ∧ wP S k ρ.length false = wP S k (ρ.length + 1) β := by
  obtain ⟨i1, i2, i3, i4⟩ := h
  have hb : β = false := by
    cases β with
    | false => rfl
    | true =>
      obtain ⟨z, z1, z2, z3⟩ := i4 rfl
      rw [hx z z1 z2] at z3; cases z3
  refine ⟨⟨hv.2.2 y ρ i1, by have := i3 y (List.mem_cons_self ..); omega, fun z hz => i3 z (List.mem_cons_of_mem _ hz), fun h => by cases h⟩, ?_⟩
  rw [hb]
  unfold wP
  rw [if_neg (by simp), if_neg (by simp)]
theorem walk_ends {vi an : List Nat → Bool} {S : Nat} (hv : WV vi an) : ∀ M ρ x k β, WI vi ρ x β → wM S k ρ.length x β ≤ M → ∃ res, walk vi an S (M + 1) ρ x k = some res := by
  intro M
  induction M with
  | zero =>
    intro ρ x k β h hM
    unfold wM at hM
    have hx := h.2.1
    show ∃ res, (if S ≤ k then some (k, ρ) else if x < 8 then _ else _) = some res
    by_cases c : S ≤ k
    · rw [if_pos c]; exact ⟨_, rfl⟩
    · rw [if_neg c, if_neg (by omega)]
      cases ρ with
      | nil => exact ⟨_, rfl⟩
      | cons y ρ =>
        have : (y :: ρ).length = ρ.length + 1 := rfl
        omega
  | succ M ih =>
    intro ρ x k β h hM
    have hx := h.2.1
    show ∃ res, (if S ≤ k then some (k, ρ) else if x < 8 then (if vi (x :: ρ) = true then walk vi an S (M + 1) (x :: ρ) 0 (if an (x :: ρ) = true then k + 1 else k) else walk vi an S (M + 1) ρ (x + 1) k) else match ρ with | [] => some (k, []) | y :: ρ' => walk vi an S (M + 1) ρ' (y + 1) k) = some res
    by_cases c : S ≤ k
    · rw [if_pos c]; exact ⟨_, rfl⟩
    · rw [if_neg c]
      by_cases c8 : x < 8
      · rw [if_pos c8]
        cases hd : vi (x :: ρ) with
        | true =>
          rw [if_pos rfl]
          obtain ⟨β', w1, w2⟩ := wi_down (k := k) (S := S) hv h c8 hd (by omega)
          refine ih (x :: ρ) 0 _ β' w1 ?_
          unfold wM at hM ⊢
          show 18 * wP S _ (ρ.length + 1) β' + 9 * (ρ.length + 1) + (8 - 0) ≤ M
          omega
        | false =>
          rw [if_neg (by simp)]
          refine ih ρ (x + 1) k β (wi_next h c8 hd) ?_
          unfold wM at hM ⊢
          omega
      · rw [if_neg c8]
        cases ρ with
        | nil => exact ⟨_, rfl⟩
        | cons y ρ =>
          obtain ⟨w1, w2⟩ := wi_up (k := k) (S := S) hv h (fun z z1 z2 => by omega)
          refine ih ρ (y + 1) k false w1 ?_
          unfold wM at hM ⊢
          have e : (y :: ρ).length = ρ.length + 1 := rfl
          rw [e] at hM
          rw [w2]
          omega
theorem walk_s {vi an : List Nat → Bool} {S F x k : Nat} {ρ : List Nat} : walk vi an S (F + 1) ρ x k = if S ≤ k then some (k, ρ) else if x < 8 then (if vi (x :: ρ) = true then walk vi an S F (x :: ρ) 0 (if an (x :: ρ) = true then k + 1 else k) else walk vi an S F ρ (x + 1) k) else match ρ with
    | [] => some (k, [])
    | y :: ρ' => walk vi an S F ρ' (y + 1) k := rfl
theorem walk_skip {vi an : List Nat → Bool} {S k : Nat} {ρ : List Nat} (hk : k < S) : ∀ d F x res, x + d ≤ 8 → (∀ z, x ≤ z → z < x + d → vi (z :: ρ) = false) → walk vi an S F ρ x k = some res → ∃ F', F' ≤ F ∧ walk vi an S F' ρ (x + d) k = some res
  | 0, F, x, res, _, _, h => ⟨F, Nat.le_refl _, h⟩
  | d + 1, F, x, res, hx, hz, h => by
    cases F with
    | zero => cases h
    | succ F =>
      rw [walk_s] at h
      have hv := hz x (Nat.le_refl _) (by omega)
      rw [if_neg (by omega), if_pos (by omega), if_neg (by rw [hv]; simp)] at h
      obtain ⟨F', h1, h2⟩ := walk_skip hk d F (x + 1) res (by omega) (fun z z1 z2 => hz z (by omega) (by omega)) h
      exact ⟨F', by omega, by rw [show x + (d + 1) = x + 1 + d by omega]; exact h2⟩
