
/-! the answers, in their order -/
def kd (g : List Nat → List (List Nat)) (ρ : List Nat) : Nat → List (List Nat)
  | 0 => []
  | r + 1 => g ((8 - (r + 1)) :: ρ) ++ kd g ρ r
theorem kd_cg {g g' : List Nat → List (List Nat)} {ρ : List Nat} (h : ∀ z, g (z :: ρ) = g' (z :: ρ)) : ∀ r, kd g ρ r = kd g' ρ r
  | 0 => rfl
  | r + 1 => by rw [kd, kd, h, kd_cg h r]
theorem kd_mem {g : List Nat → List (List Nat)} {ρ τ : List Nat} : ∀ {r : Nat}, r ≤ 8 → (τ ∈ kd g ρ r ↔ ∃ z, 8 - r ≤ z ∧ z < 8 ∧ τ ∈ g (z :: ρ))
  | 0, _ => ⟨fun h => (by cases h), fun ⟨z, h1, h2, _⟩ => by omega⟩
  | r + 1, hr => by
    rw [kd, List.mem_append, kd_mem (r := r) (by omega)]
    constructor
    · rintro (h | ⟨z, h1, h2, h3⟩)
      · exact ⟨_, Nat.le_refl _, by omega, h⟩
      · exact ⟨z, by omega, h2, h3⟩
    · rintro ⟨z, h1, h2, h3⟩
      by_cases e : z = 8 - (r + 1)
      · left; rw [← e]; exact h3
      · exact Or.inr ⟨z, by omega, h2, h3⟩
section TREE
variable (vi an : List Nat → Bool)
def T8 : Nat → List Nat → List (List Nat)
  | 0, _ => []
  | d + 1, ρ => (if an ρ = true then [ρ] else []) ++ kd (fun σ => if vi σ = true then T8 d σ else []) ρ 8
def subT (σ : List Nat) : List (List Nat) := if vi σ = true then T8 vi an (288 - σ.length) σ else []
def restT : List Nat → Nat → List (List Nat)
  | [], x => kd (subT vi an) [] (8 - x)
  | y :: ρ, x => kd (subT vi an) (y :: ρ) (8 - x) ++ restT ρ (y + 1)
end TREE
section TREE2
variable {vi an : List Nat → Bool} {S : Nat}
theorem subT_s (hv : WV vi an) {σ : List Nat} (h : vi σ = true) : subT vi an σ = (if an σ = true then [σ] else []) ++ kd (subT vi an) σ 8 := by
  have hl := hv.1 σ h
  unfold subT
  rw [if_pos h, show 288 - σ.length = (287 - σ.length) + 1 by omega]
  show (if an σ = true then [σ] else []) ++ kd (fun σ => if vi σ = true then T8 vi an _ σ else []) σ 8 = _
  congr 1
  refine kd_cg (fun z => ?_) 8
  show (if vi (z :: σ) = true then T8 vi an (287 - σ.length) (z :: σ) else []) = (if vi (z :: σ) = true then T8 vi an (288 - (z :: σ).length) (z :: σ) else [])
  rw [show 288 - (z :: σ).length = 287 - σ.length by rw [List.length_cons]; omega]
theorem restT_0 {ρ : List Nat} {x : Nat} (hx : x < 8) : restT vi an ρ x = subT vi an (x :: ρ) ++ restT vi an ρ (x + 1) := by
  have e : kd (subT vi an) ρ (8 - x) = subT vi an (x :: ρ) ++ kd (subT vi an) ρ (8 - (x + 1)) := by
    rw [show 8 - x = (7 - x) + 1 by omega, kd, show 8 - (7 - x + 1) = x by omega, show 8 - (x + 1) = 7 - x by omega]
  cases ρ with
  | nil => exact e
  | cons y ρ =>
    show kd (subT vi an) (y :: ρ) (8 - x) ++ restT vi an ρ (y + 1) = subT vi an (x :: y :: ρ) ++ (kd (subT vi an) (y :: ρ) (8 - (x + 1)) ++ restT vi an ρ (y + 1))
    rw [e, List.append_assoc]
theorem walk_R (hv : WV vi an) : ∀ F ρ x k res, walk vi an S F ρ x k = some res → k < S → (k + (restT vi an ρ x).length < S → res.1 = k + (restT vi an ρ x).length) ∧ ∀ j τ, (restT vi an ρ x)[j]? = some τ → k + j + 1 = S → res = (S, τ)
  | 0, ρ, x, k, res, h, _ => by cases h
  | F + 1, ρ, x, k, res, h, hk => by
    rw [walk_s, if_neg (by omega)] at h
    by_cases hx : x < 8
    · rw [if_pos hx] at h
      rw [restT_0 hx]
      cases hd : vi (x :: ρ) with
      | false =>
        rw [hd, if_neg (by simp)] at h
        have e : subT vi an (x :: ρ) = [] := by unfold subT; rw [hd]; rfl
        rw [e, List.nil_append]
        exact walk_R hv F ρ (x + 1) k res h hk
      | true =>
        rw [hd, if_pos rfl] at h
        have e2 : subT vi an (x :: ρ) ++ restT vi an ρ (x + 1) = (if an (x :: ρ) = true then [x :: ρ] else []) ++ restT vi an (x :: ρ) 0 := by
          rw [subT_s hv hd, List.append_assoc]
          rfl
        rw [e2]
        cases ha : an (x :: ρ) with
        | false =>
          rw [ha, if_neg (by simp)] at h
          rw [if_neg (by simp), List.nil_append]
          exact walk_R hv F (x :: ρ) 0 k res h hk
        | true =>
          rw [ha, if_pos rfl] at h
          rw [if_pos rfl, List.length_append]
          by_cases hk1 : k + 1 < S
          · obtain ⟨a1, a2⟩ := walk_R hv F (x :: ρ) 0 (k + 1) res h hk1
            refine ⟨fun hl => ?_, fun j τ hj he => ?_⟩
            · rw [show k + ([x :: ρ].length + (restT vi an (x :: ρ) 0).length) = k + 1 + (restT vi an (x :: ρ) 0).length from by show k + (1 + _) = _; omega] at hl ⊢
              exact a1 hl
            · cases j with
              | zero => omega
              | succ j => exact a2 j τ hj (by omega)
          · have eS : k + 1 = S := by omega
            refine ⟨fun hl => ?_, fun j τ hj he => ?_⟩
            · have hl : k + (1 + (restT vi an (x :: ρ) 0).length) < S := hl
              omega
            · have ej : j = 0 := by omega
              subst ej
              have hj : some (x :: ρ) = some τ := hj
              cases F with
              | zero => cases h
              | succ F =>
                rw [walk_s, if_pos (by omega)] at h
                rw [← Option.some.inj h, ← Option.some.inj hj, eS]
    · rw [if_neg hx] at h
      have e8 : 8 - x = 0 := by omega
      cases ρ with
      | nil =>
        have h : some (k, ([] : List Nat)) = some res := h
        have e : restT vi an [] x = [] := by
          show kd (subT vi an) [] (8 - x) = []
          rw [e8]; rfl
        rw [e, ← Option.some.inj h]
        exact ⟨fun _ => rfl, fun j τ hj => (by simp at hj)⟩
      | cons y ρ =>
        have h : walk vi an S F ρ (y + 1) k = some res := h
        have e : restT vi an (y :: ρ) x = restT vi an ρ (y + 1) := by
          show kd (subT vi an) (y :: ρ) (8 - x) ++ restT vi an ρ (y + 1) = _
          rw [e8]; rfl
        rw [e]
        exact walk_R hv F ρ (y + 1) k res h hk
/-- the order of words: the first letter that differs, an end before a letter -/
def cdL (x : Nat) : Nat := x % 8 + if x < 8 then 1 else 0
def LexLt (ρ τ : List Nat) : Prop := ∃ k, k < 288 ∧ (∀ j, j < k → ltP ρ j = ltP τ j) ∧ cdL (ltP ρ k) < cdL (ltP τ k)
theorem ltP_suf {ρ : List Nat} {j : Nat} (hj : j < ρ.length) (α : List Nat) : ltP (α ++ ρ) j = ltP ρ j := by
  unfold ltP
  rw [if_pos hj, List.length_append, if_pos (by omega), List.getD_eq_getElem?_getD, List.getD_eq_getElem?_getD, List.getElem?_append_right (by omega)]
  congr 2
  omega
theorem ltP_top (α ρ : List Nat) (y : Nat) : ltP (α ++ y :: ρ) ρ.length = y := by
  rw [ltP_suf (by rw [List.length_cons]; omega)]
  unfold ltP
  rw [if_pos (by rw [List.length_cons]; omega), List.length_cons, show ρ.length + 1 - 1 - ρ.length = 0 by omega]
  rfl
theorem ltP_end (ρ : List Nat) {j : Nat} (h : ρ.length ≤ j) : ltP ρ j = 8 := if_neg (by omega)
theorem lex_fork {ρ τ τ' α α' : List Nat} {y y' : Nat} (hl : ρ.length < 288) (h : τ = α ++ y :: ρ) (h' : τ' = α' ++ y' :: ρ) (hy : y < y') (hy' : y' < 8) : LexLt τ τ' := by
  refine ⟨ρ.length, hl, fun j hj => ?_, ?_⟩
  · rw [h, h', show α ++ y :: ρ = (α ++ [y]) ++ ρ by rw [List.append_assoc]; rfl, show α' ++ y' :: ρ = (α' ++ [y']) ++ ρ by rw [List.append_assoc]; rfl, ltP_suf hj, ltP_suf hj]
  · rw [h, h', ltP_top, ltP_top]
    unfold cdL
    rw [if_pos (by omega), if_pos hy']
    omega
theorem lex_ext {ρ τ α : List Nat} {y : Nat} (hl : ρ.length < 288) (h : τ = α ++ y :: ρ) (hy : y < 8) : LexLt ρ τ := by
  refine ⟨ρ.length, hl, fun j hj => ?_, ?_⟩
  · rw [h, show α ++ y :: ρ = (α ++ [y]) ++ ρ by rw [List.append_assoc]; rfl, ltP_suf hj]
  · rw [h, ltP_top, ltP_end ρ (Nat.le_refl _)]
    unfold cdL
    rw [if_pos hy, if_neg (by omega)]
    omega
theorem t8_mem : ∀ (d : Nat) (ρ τ : List Nat), τ ∈ T8 vi an d ρ → (∃ α, τ = α ++ ρ ∧ ∀ z, z ∈ α → z < 8) ∧ an τ = true ∧ (vi ρ = true → vi τ = true)
  | 0, ρ, τ, h => by cases h
  | d + 1, ρ, τ, h => by
    rcases List.mem_append.mp h with h | h
    · by_cases ha : an ρ = true
      · rw [if_pos ha, List.mem_singleton] at h
        rw [h]
        exact ⟨⟨[], rfl, fun z hz => (by cases hz)⟩, ha, fun h => h⟩
      · rw [if_neg ha] at h; cases h
    · obtain ⟨z, h1, h2, h3⟩ := (kd_mem (Nat.le_refl 8)).mp h
      have h3 : τ ∈ (if vi (z :: ρ) = true then T8 vi an d (z :: ρ) else []) := h3
      by_cases hd : vi (z :: ρ) = true
      · rw [if_pos hd] at h3
        obtain ⟨⟨α, a1, a2⟩, a3, a4⟩ := t8_mem d (z :: ρ) τ h3
        refine ⟨⟨α ++ [z], by rw [a1, List.append_assoc]; rfl, fun y hy => ?_⟩, a3, fun _ => a4 hd⟩
        rcases List.mem_append.mp hy with e | e
        · exact a2 y e
        · rw [List.mem_singleton.mp e]; exact h2
      · rw [if_neg hd] at h3; cases h3
theorem t8_all (h3 : ∀ y ρ, vi (y :: ρ) = true → vi ρ = true) : ∀ (α : List Nat) (d : Nat) (ρ : List Nat), α.length < d → (∀ z, z ∈ α → z < 8) → vi (α.reverse ++ ρ) = true → an (α.reverse ++ ρ) = true → α.reverse ++ ρ ∈ T8 vi an d ρ
  | α, 0, ρ, hd, _, _, _ => absurd hd (Nat.not_lt_zero _)
  | [], d + 1, ρ, hd, hz, hv, ha => by
    have ha : an ρ = true := ha
    show ρ ∈ (if an ρ = true then [ρ] else []) ++ _
    rw [if_pos ha]
    exact List.mem_append_left _ (List.mem_singleton.mpr rfl)
  | z :: α, d + 1, ρ, hd, hz, hv, ha => by
    have e : (z :: α).reverse ++ ρ = α.reverse ++ (z :: ρ) := by rw [List.reverse_cons, List.append_assoc]; rfl
    rw [e] at hv ha ⊢
    have hvz : ∀ β : List Nat, vi (β ++ (z :: ρ)) = true → vi (z :: ρ) = true := by
      intro β
      induction β with
      | nil => exact fun h => h
      | cons y β ih => exact fun h => ih (h3 y _ h)
    refine List.mem_append_right _ ((kd_mem (Nat.le_refl 8)).mpr ⟨z, by omega, hz z List.mem_cons_self, ?_⟩)
    show _ ∈ (if vi (z :: ρ) = true then T8 vi an d (z :: ρ) else [])
    rw [if_pos (hvz _ hv)]
    exact t8_all h3 α d (z :: ρ) (by rw [List.length_cons] at hd; omega) (fun y hy => hz y (List.mem_cons_of_mem _ hy)) hv ha
theorem kd_pw {g : List Nat → List (List Nat)} {ρ : List Nat} (hl : ρ.length < 288) (hg : ∀ z τ, τ ∈ g (z :: ρ) → ∃ α, τ = α ++ z :: ρ) (hp : ∀ z, z < 8 → (g (z :: ρ)).Pairwise LexLt) : ∀ r, r ≤ 8 → (kd g ρ r).Pairwise LexLt
  | 0, _ => List.Pairwise.nil
  | r + 1, hr => by
    rw [kd, List.pairwise_append]
    refine ⟨hp _ (by omega), kd_pw hl hg hp r (by omega), fun τ hτ τ' hτ' => ?_⟩
    obtain ⟨z, h1, h2, h3⟩ := (kd_mem (by omega)).mp hτ'
    obtain ⟨α, e⟩ := hg _ τ hτ
    obtain ⟨α', e'⟩ := hg z τ' h3
    exact lex_fork hl e e' (by omega) h2
theorem t8_pw (hv : ∀ ρ, vi ρ = true → ρ.length ≤ 287) : ∀ (d : Nat) (ρ : List Nat), vi ρ = true → (T8 vi an d ρ).Pairwise LexLt
  | 0, ρ, _ => List.Pairwise.nil
  | d + 1, ρ, h => by
    have hl := hv ρ h
    have hg : ∀ z τ, τ ∈ (fun σ => if vi σ = true then T8 vi an d σ else []) (z :: ρ) → ∃ α, τ = α ++ z :: ρ := by
      intro z τ hτ
      have hτ : τ ∈ (if vi (z :: ρ) = true then T8 vi an d (z :: ρ) else []) := hτ
      by_cases hd : vi (z :: ρ) = true
      · rw [if_pos hd] at hτ
        obtain ⟨⟨α, a1, _⟩, _⟩ := t8_mem d (z :: ρ) τ hτ
        exact ⟨α, a1⟩
      · rw [if_neg hd] at hτ; cases hτ
    have hk : (kd (fun σ => if vi σ = true then T8 vi an d σ else []) ρ 8).Pairwise LexLt := by
      refine kd_pw (by omega) hg (fun z hz => ?_) 8 (Nat.le_refl _)
      show (if vi (z :: ρ) = true then T8 vi an d (z :: ρ) else []).Pairwise LexLt
      by_cases hd : vi (z :: ρ) = true
      · rw [if_pos hd]; exact t8_pw hv d (z :: ρ) hd
      · rw [if_neg hd]; exact List.Pairwise.nil
    show ((if an ρ = true then [ρ] else []) ++ _).Pairwise LexLt
    rw [List.pairwise_append]
    refine ⟨?_, hk, fun τ hτ τ' hτ' => ?_⟩
    · split
      · exact List.pairwise_singleton _ _
      · exact List.Pairwise.nil
    · have eτ : τ = ρ := by
        by_cases ha : an ρ = true
        · rw [if_pos ha, List.mem_singleton] at hτ; exact hτ
        · rw [if_neg ha] at hτ; cases hτ
      obtain ⟨z, h1, h2, h3⟩ := (kd_mem (Nat.le_refl 8)).mp hτ'
      obtain ⟨α', e'⟩ := hg z τ' h3
      rw [eτ]
      exact lex_ext (by omega) e' h2
/-- all the answers of a look -/
theorem list_ex (hv : WV vi an) (h0 : vi [] = true) : ∃ Λ : List (List Nat), (∀ S F res, 1 ≤ S → walk vi an S F [] 0 (if an [] = true then 1 else 0) = some res → (Λ.length < S → res.1 = Λ.length) ∧ ∀ τ, Λ[S - 1]? = some τ → res = (S, τ)) ∧ Λ.Pairwise LexLt ∧ (∀ ρ, ρ ∈ Λ → an ρ = true ∧ vi ρ = true ∧ ∀ z, z ∈ ρ → z < 8) ∧ ∀ ρ, (∀ z, z ∈ ρ → z < 8) → vi ρ = true → an ρ = true → ρ ∈ Λ := by
  refine ⟨subT vi an [], fun S F res hS h => ?_, ?_, fun ρ hρ => ?_, fun ρ hz hvρ ha => ?_⟩
  · rw [subT_s hv h0]
    have e : kd (subT vi an) [] 8 = restT vi an [] 0 := rfl
    rw [e]
    cases ha : an [] with
    | false =>
      rw [ha, if_neg (by simp)] at h
      rw [if_neg (by simp), List.nil_append]
      obtain ⟨a1, a2⟩ := walk_R hv F [] 0 0 res h (by omega)
      refine ⟨fun hl => ?_, fun τ hτ => a2 _ τ hτ (by omega)⟩
      have := a1 (by omega)
      omega
    | true =>
      rw [ha, if_pos rfl] at h
      rw [if_pos rfl]
      by_cases hS1 : 1 < S
      · obtain ⟨a1, a2⟩ := walk_R hv F [] 0 1 res h hS1
        refine ⟨fun hl => ?_, fun τ hτ => ?_⟩
        · have hl : (restT vi an [] 0).length + 1 < S := hl
          have := a1 (by omega)
          show res.1 = (restT vi an [] 0).length + 1
          omega
        · rw [show S - 1 = (S - 2) + 1 by omega] at hτ
          exact a2 (S - 2) τ hτ (by omega)
      · have eS : S = 1 := by omega
        subst eS
        refine ⟨fun hl => ?_, fun τ hτ => ?_⟩
        · have hl : (restT vi an [] 0).length + 1 < 1 := hl
          omega
        · have hτ : some ([] : List Nat) = some τ := hτ
          cases F with
          | zero => cases h
          | succ F =>
            rw [walk_s, if_pos (by omega)] at h
            rw [← Option.some.inj h, ← Option.some.inj hτ]
  · unfold subT
    rw [if_pos h0]
    exact t8_pw hv.1 _ [] h0
  · unfold subT at hρ
    rw [if_pos h0] at hρ
    obtain ⟨⟨α, a1, a2⟩, a3, a4⟩ := t8_mem _ [] ρ hρ
    refine ⟨a3, a4 h0, ?_⟩
    rw [a1, List.append_nil]
    exact a2
  · unfold subT
    rw [if_pos h0]
    have e : ρ.reverse.reverse ++ [] = ρ := by rw [List.append_nil, List.reverse_reverse]
    have := t8_all (vi := vi) (an := an) hv.2.2 ρ.reverse 288 [] (by rw [List.length_reverse]; have := hv.1 ρ hvρ; omega) (fun z hz' => hz z (List.mem_reverse.mp hz')) (by rw [e]; exact hvρ) (by rw [e]; exact ha)
    rw [e] at this
    exact this
end TREE2
