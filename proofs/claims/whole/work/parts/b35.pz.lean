/-! rounds of the model's least costs -/
def hat (v : Nat) : Nat := if v < 1000000000 then v else 1000000000
theorem hat_le {v v' : Nat} (h : v' ≤ v) : hat v' ≤ hat v := by unfold hat; split <;> split <;> omega
def mF (δ : Nat → Nat) (a : Nat) : Nat := if δ a < 1000000000 then δ a else 2000000000
def cor (V δ : Nat → Nat) : Nat := cnt (fun a => decide (hat (V a) = δ a)) 288
theorem TM.lo {Eg : Nat → Nat → Nat → Prop} {En : Nat → Prop} {m : Mem} {V δ : Nat → Nat} (h : TM Eg En m V) (hδ : IsD Eg En δ) {a : Nat} (ha : a < 288) : δ a ≤ hat (V a) := by
  obtain ⟨e1, e2, e3⟩ := h a ha
  unfold hat
  rcases hδ a with ⟨d1, d2⟩ | ⟨d1, d2⟩
  · rcases e2 with ⟨x, _⟩ | ⟨x, y⟩
    · rw [x, if_neg (by omega)]; omega
    · have := d2.2 _ y
      split <;> omega
  · rcases e2 with ⟨x, _⟩ | ⟨x, y⟩
    · rw [x, if_neg (by omega)]; omega
    · exact absurd y (d2 _)
theorem TM.fin {Eg : Nat → Nat → Nat → Prop} {En : Nat → Prop} {m : Mem} {V δ : Nat → Nat} (h : TM Eg En m V) (hδ : IsD Eg En δ) {a : Nat} (ha : a < 288) (hc : hat (V a) = δ a) : V a = mF δ a := by
  obtain ⟨e1, e2, e3⟩ := h a ha
  unfold hat at hc
  unfold mF
  rcases hδ a with ⟨d1, d2⟩ | ⟨d1, d2⟩
  · rw [if_pos d1]
    split at hc <;> omega
  · rw [if_neg (by omega)]
    rcases e2 with ⟨x, _⟩ | ⟨x, y⟩
    · exact x
    · exact absurd y (d2 _)
theorem tm_round {Eg : Nat → Nat → Nat → Prop} {En : Nat → Prop} {m m' : Mem} {V V' δ : Nat → Nat} (hb : EB Eg) (hδ : IsD Eg En δ) (h : TM Eg En m V) (h' : TM Eg En m' V') (hle : ∀ x, V' x ≤ V x) (hE : ∀ a c b, Eg a c b → V b < 2000000000 → V' a ≤ V b + c) :
    (∀ a, a < 288 → hat (V a) = δ a) ∨ cor V δ + 1 ≤ cor V' δ := by
  have hkeep : ∀ a, a < 288 → hat (V a) = δ a → hat (V' a) = δ a := by
    intro a ha he
    have h1 := hat_le (hle a)
    have h2 := h'.lo hδ ha
    omega
  have key := relax (V := fun a => hat (V a)) (V' := fun a => hat (V' a)) (X := fun a => a < 288) hδ hb (fun a ha => h'.lo hδ ha) (fun a ha => hat_le (hle a)) (fun a ha => by show hat (V a) ≤ _; unfold hat; split <;> omega) (fun a ha he => by
    show hat (V' a) = 0
    rw [(h' a ha).2.2 he]; rfl) (fun a c b ha he hVb hlt => by
    have hVb : hat (V b) = δ b := hVb
    show hat (V' a) ≤ δ b + c
    have h3 : V b = δ b := by unfold hat at hVb; split at hVb <;> omega
    have := hE a c b he (by omega)
    unfold hat
    split <;> omega) (fun a c b ha he => Or.inl (hb a c b he).2.1)
  rcases key with h1 | ⟨a, ha, h1, h2⟩
  · exact Or.inl h1
  · right
    have h1 : hat (V a) ≠ δ a := h1
    have h2 : hat (V' a) = δ a := h2
    have hlt := cnt_lt (a := fun s => decide (hat (V s) = δ s ∧ s < 288)) (b := fun s => decide (hat (V' s) = δ s ∧ s < 288)) (fun s hs => by
      have hs := of_decide_eq_true hs
      exact decide_eq_true ⟨hkeep s hs.2 hs.1, hs.2⟩) (x := a) (decide_eq_true ⟨h2, ha⟩) (decide_eq_false (fun h => h1 h.1)) 288 ha
    have c1 : cnt (fun s => decide (hat (V s) = δ s ∧ s < 288)) 288 = cor V δ := cnt_cg (fun i hi => by
      by_cases c : hat (V i) = δ i
      · rw [decide_eq_true c, decide_eq_true ⟨c, hi⟩]
      · rw [decide_eq_false c, decide_eq_false (fun h => c h.1)])
    have c2 : cnt (fun s => decide (hat (V' s) = δ s ∧ s < 288)) 288 = cor V' δ := cnt_cg (fun i hi => by
      by_cases c : hat (V' i) = δ i
      · rw [decide_eq_true c, decide_eq_true ⟨c, hi⟩]
      · rw [decide_eq_false c, decide_eq_false (fun h => c h.1)])
    omega
/-- where all is right, nothing is lessened -/
theorem tm_still {Eg : Nat → Nat → Nat → Prop} {En : Nat → Prop} {m m' : Mem} {V V' δ : Nat → Nat} (hδ : IsD Eg En δ) (h : TM Eg En m V) (h' : TM Eg En m' V') (hle : ∀ x, V' x ≤ V x) (hall : ∀ a, a < 288 → hat (V a) = δ a) {a : Nat} (ha : a < 288) : ¬ V' a < V a := by
  intro hlt
  have h1 := h.fin hδ ha (hall a ha)
  have h2 := h'.lo hδ ha
  have h3 := hat_le (hle a)
  have h4 := hall a ha
  have h5 := h'.fin hδ ha (by omega)
  omega
theorem cor_le (V δ : Nat → Nat) : cor V δ ≤ 288 := cnt_le _ _
/-- the frame of a while over rounds -/
theorem tm_while {Eg : Nat → Nat → Nat → Prop} {En : Nat → Prop} {m0 : Mem} {V0 δ : Nat → Nat} {N : Nat} {β : Type} {Q : Option β → Prop} {R : Mem → Prop} (hN : 40000 < N) (hb : EB Eg) (hδ : IsD Eg En δ) (h0 : TM Eg En m0 V0) (hr0 : R m0) (Lp : Nat → Mem → Bool → Option β)
    (step : ∀ g m V, TM Eg En m V → R m → ∃ m' V' fl, Lp (g + 1) m true = Lp g m' fl ∧ R m' ∧ TM Eg En m' V' ∧ (∀ x, V' x ≤ V x) ∧ (∀ a c b, Eg a c b → V b < 2000000000 → V' a ≤ V b + c) ∧ (fl = false → V' = V) ∧ (fl = true → ∃ a, a < 288 ∧ V' a < V a))
    (done : ∀ g m, R m → (∀ a, a < 288 → m 99 a = nI (mF δ a)) → Q (Lp (g + 1) m false)) : Q (Lp N m0 true) := by
  refine loopW (σ := Mem × (Nat → Nat) × Bool) (fun g x => Lp g x.1 x.2.2) (fun x => TM Eg En x.1 x.2.1 ∧ R x.1 ∧ (x.2.2 = false → ∀ a, a < 288 → hat (x.2.1 a) = δ a)) (fun x => 2 * (288 - cor x.2.1 δ) + if x.2.2 = true then 1 else 0) Q ?_ N (m0, V0, true) ⟨h0, hr0, fun h => by cases h⟩ (by show 2 * (288 - cor V0 δ) + 1 < N; omega)
  rintro g ⟨m, V, fl⟩ ⟨i1, i2, i3⟩
  cases fl with
  | false =>
    right
    have i3 : ∀ a, a < 288 → hat (V a) = δ a := i3 rfl
    have i1 : TM Eg En m V := i1
    have i2 : R m := i2
    exact done g m i2 (fun a ha => by rw [(i1 a ha).1, i1.fin hδ ha (i3 a ha)])
  | true =>
    left
    have i1 : TM Eg En m V := i1
    have i2 : R m := i2
    obtain ⟨m', V', fl, s1, s2, s3, s4, s5, s6, s7⟩ := step g m V i1 i2
    have hcr := tm_round hb hδ i1 s3 s4 s5
    have c1 := cor_le V δ
    have c2 := cor_le V' δ
    refine ⟨(m', V', fl), ⟨s3, s2, fun hfl => ?_⟩, ?_, s1⟩
    · have hfl : fl = false := hfl
      have e := s6 hfl
      show ∀ a, a < 288 → hat (V' a) = δ a
      rcases hcr with h | h
      · rw [e]; exact h
      · rw [e] at h; omega
    · show 2 * (288 - cor V' δ) + (if fl = true then 1 else 0) < 2 * (288 - cor V δ) + (if true = true then 1 else 0)
      rw [if_pos (show true = true from rfl)]
      rcases hcr with h | h
      · cases fl with
        | false => rw [s6 rfl, if_neg (by simp)]; omega
        | true =>
          obtain ⟨a, ha, hlt⟩ := s7 rfl
          exact absurd hlt (tm_still hδ i1 s3 s4 h ha)
      · split <;> omega
