theorem first_ex {P : Nat → Prop} (h : ∃ t, P t) : ∃ t, P t ∧ ∀ t', t' < t → ¬ P t' := by
  classical
  obtain ⟨t, ht⟩ := h
  have key : ∀ n t, t < n → P t → ∃ t, P t ∧ ∀ t', t' < t → ¬ P t' := by
    intro n
    induction n with
    | zero => intro t h; exact absurd h (Nat.not_lt_zero _)
    | succ n ih =>
      intro t htn ht
      by_cases c : ∃ t', t' < t ∧ P t'
      · obtain ⟨t', h1, h2⟩ := c
        exact ih t' (by omega) h2
      · exact ⟨t, ht, fun t' h1 h2 => c ⟨t', h1, h2⟩⟩
  exact key (t + 1) t (by omega) ht
theorem cnt_inj {b : Nat → Bool} {i j : Nat} (hi : b i = true) (hj : b j = true) (h : cnt b i = cnt b j) : i = j := by
  rcases Nat.lt_trichotomy i j with c | c | c
  · have := cnt_at hi c; omega
  · exact c
  · have := cnt_at hj c; omega
def MemOf (d : Nat → Nat → Option Nat) (wa u : Nat → Bool) (c t : Nat) (mem : Nat → Nat) : Prop := ∀ g, g < Fc d wa u c (t + 2) → mem g < c ∧ nwF (sgC d (Gs d wa u (t + 1))) u (mem g) = true ∧ cnt (nwF (sgC d (Gs d wa u (t + 1))) u) (mem g) = g
theorem mt_live {d : Nat → Nat → Option Nat} {wa u : Nat → Bool} {c t i : Nat} {mem : Nat → Nat} (hu : UOf d wa c u) (hdc : ∀ k x y, k < c → x < 8 → d k x = some y → y < c) (hm : MemOf d wa u c t mem) (hi : i < c) (ui : u i = true) : ∃ g, g < Fc d wa u c (t + 2) ∧ Gs d wa u (t + 2) i = some g ∧ Ss (dpr d u) wa (t + 2) (mem g) = Ss (dpr d u) wa (t + 2) i := by
  have hg : nmF (sgC d (Gs d wa u (t + 1))) u i < Fc d wa u c (t + 2) := nm_ltc ui hi
  obtain ⟨h1, h2, h3⟩ := hm _ hg
  refine ⟨_, hg, by show (if u i = true then some (nmF (sgC d (Gs d wa u (t + 1))) u i) else none) = _; rw [if_pos ui], ?_⟩
  have h3 : cnt (nwF (sgC d (Gs d wa u (t + 1))) u) (mem (nmF (sgC d (Gs d wa u (t + 1))) u i)) = cnt (nwF (sgC d (Gs d wa u (t + 1))) u) (rpF (sgC d (Gs d wa u (t + 1))) u i) := h3
  rw [cnt_inj h2 (nw_rp ui) h3]
  show nmF (sgM (dpr d u) (Ss (dpr d u) wa (t + 1))) (fun _ => true) _ = nmF (sgM (dpr d u) (Ss (dpr d u) wa (t + 1))) (fun _ => true) i
  rw [nm_eq rfl rfl, ← rp_same hu hdc hi ui]
  exact (rp_spec (U := fun _ => true) rfl).2.2.1
theorem drD_mem {d : Nat → Nat → Option Nat} {G : Nat → Option Nat} {mem : Nat → Nat} {F : Nat} {q : Nat × Nat} : q ∈ drD d G mem F ↔ ∃ g x j h, g < F ∧ x < 8 ∧ d (mem g) x = some j ∧ G j = some h ∧ q = (pkA g x x h, 0) := by
  unfold drD
  rw [fmN_mem]
  constructor
  · rintro ⟨g, hg, hq⟩
    obtain ⟨x, h, hx, hgb, rfl⟩ := drw_mem.mp hq
    unfold gb at hgb
    cases hdx : d (mem g) x with
    | none => rw [hdx] at hgb; cases hgb
    | some j => rw [hdx] at hgb; exact ⟨g, x, j, h, hg, hx, hdx, hgb, rfl⟩
  · rintro ⟨g, x, j, h, hg, hx, hdx, hgb, rfl⟩
    exact ⟨g, hg, drw_mem.mpr ⟨x, h, hx, by unfold gb; rw [hdx]; exact hgb, rfl⟩⟩
theorem Gs_some {d : Nat → Nat → Option Nat} {wa u : Nat → Bool} {t i g : Nat} (h : Gs d wa u t i = some g) : u i = true := by
  cases hu : u i with
  | true => rfl
  | false => rw [Gs_dead hu] at h; cases h
