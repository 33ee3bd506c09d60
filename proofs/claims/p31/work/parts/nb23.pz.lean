theorem first_ex {P : Nat → Prop} (h : ∃ t, P t) : ∃ t, P t ∧ ∀ t', t' < t → ¬ P t' := by
  classical
  obtain ⟨t, ht⟩ := h
  have key : ∀ n t, t < n → P t → ∃ t, P t ∧ ∀ t', t' < t → ¬ P t' := by
    intro n
    induction n with
    | zero => intro t h; exact absurd h (Nat.not_lt_zero _)
    | succ n ih =>
      intro t htn ht
      by_cases c : ∃ t', t' < t ∧ P t'
      · obtain ⟨t', h1, h2⟩ := c
        exact ih t' (by omega) h2
      · exact ⟨t, ht, fun t' h1 h2 => c ⟨t', h1, h2⟩⟩
  exact key (t + 1) t (by omega) ht
theorem first_uq {P : Nat → Prop} {t t2 : Nat} (h1 : P t) (h2 : ∀ t', t' < t → ¬ P t') (h3 : P t2) (h4 : ∀ t', t' < t2 → ¬ P t') : t = t2 := by
  rcases Nat.lt_trichotomy t t2 with c | c | c
  · exact absurd h1 (h4 t c)
  · exact c
  · exact absurd h3 (h2 t2 c)
theorem mc_first (d : Nat → Nat → Option Nat) (wa : Nat → Bool) (c : Nat) : ∃ t, Mc d wa c (t + 2) = Mc d wa c (t + 1) ∧ ∀ t', t' < t → Mc d wa c (t' + 2) ≠ Mc d wa c (t' + 1) := by
  refine first_ex (P := fun t => Mc d wa c (t + 2) = Mc d wa c (t + 1)) ?_
  apply Classical.byContradiction
  intro hn
  have hn : ∀ t, Mc d wa c (t + 2) ≠ Mc d wa c (t + 1) := fun t h => hn ⟨t, h⟩
  have key : ∀ t, t ≤ Mc d wa c (t + 1) := by
    intro t
    induction t with
    | zero => exact Nat.zero_le _
    | succ t ih =>
      have h1 := hn t
      have h2 : Mc d wa c (t + 1) ≤ Mc d wa c (t + 2) := cnt_mono (mc_mono t) _
      show t + 1 ≤ Mc d wa c (t + 2)
      omega
  have h1 := key (c + 1)
  have h2 : Mc d wa c (c + 1 + 1) ≤ c := cnt_le _ _
  omega
theorem cnt_le_of {b : Nat → Bool} : ∀ {i n : Nat}, i ≤ n → cnt b i ≤ cnt b n
  | i, 0, h => by rw [show i = 0 by omega]; exact Nat.le_refl _
  | i, n + 1, h => by
    by_cases e : i = n + 1
    · rw [e]; exact Nat.le_refl _
    · have := cnt_le_of (b := b) (i := i) (n := n) (by omega)
      rw [cnt]; omega
theorem cnt_inj {b : Nat → Bool} {i j : Nat} (hi : b i = true) (hj : b j = true) (h : cnt b i = cnt b j) : i = j := by
  rcases Nat.lt_trichotomy i j with c | c | c
  · have := cnt_at hi c; omega
  · exact c
  · have := cnt_at hj c; omega
theorem cnt_lt_of {b : Nat → Bool} {i j : Nat} (h : cnt b i < cnt b j) : i < j := by
  rcases Nat.lt_or_ge i j with c | c
  · exact c
  · have := cnt_le_of (b := b) c; omega
def MemOf (d : Nat → Nat → Option Nat) (wa u : Nat → Bool) (c t : Nat) (mem : Nat → Nat) : Prop := ∀ g, g < Fc d wa u c (t + 2) → mem g < c ∧ nwF (sgC d (Gs d wa u (t + 1))) u (mem g) = true ∧ cnt (nwF (sgC d (Gs d wa u (t + 1))) u) (mem g) = g
theorem mt_live {d : Nat → Nat → Option Nat} {wa u : Nat → Bool} {c t i : Nat} {mem : Nat → Nat} (hu : UOf d wa c u) (hdc : ∀ k x y, k < c → x < 8 → d k x = some y → y < c) (hm : MemOf d wa u c t mem) (hi : i < c) (ui : u i = true) : ∃ g, g < Fc d wa u c (t + 2) ∧ Gs d wa u (t + 2) i = some g ∧ Ss (dpr d u) wa (t + 2) (mem g) = Ss (dpr d u) wa (t + 2) i := by
  have hg : nmF (sgC d (Gs d wa u (t + 1))) u i < Fc d wa u c (t + 2) := nm_ltc ui hi
  obtain ⟨h1, h2, h3⟩ := hm _ hg
  refine ⟨_, hg, by show (if u i = true then some (nmF (sgC d (Gs d wa u (t + 1))) u i) else none) = _; rw [if_pos ui], ?_⟩
  have h3 : cnt (nwF (sgC d (Gs d wa u (t + 1))) u) (mem (nmF (sgC d (Gs d wa u (t + 1))) u i)) = cnt (nwF (sgC d (Gs d wa u (t + 1))) u) (rpF (sgC d (Gs d wa u (t + 1))) u i) := h3
  rw [cnt_inj h2 (nw_rp ui) h3]
  show nmF (sgM (dpr d u) (Ss (dpr d u) wa (t + 1))) (fun _ => true) _ = nmF (sgM (dpr d u) (Ss (dpr d u) wa (t + 1))) (fun _ => true) i
  rw [nm_eq rfl rfl, ← rp_same hu hdc hi ui]
  exact (rp_spec (U := fun _ => true) rfl).2.2.1
theorem mt_nw {d : Nat → Nat → Option Nat} {wa u : Nat → Bool} {c t i : Nat} (hu : UOf d wa c u) (hdc : ∀ k x y, k < c → x < 8 → d k x = some y → y < c) (hi : i < c) (ui : u i = true) : nwF (sgM (dpr d u) (Ss (dpr d u) wa (t + 1))) (fun _ => true) i = nwF (sgC d (Gs d wa u (t + 1))) u i := by
  rw [nw_split hu hdc hi]
  have hn : ndF u i = false := by unfold ndF; rw [ui]; rfl
  rw [hn, Bool.or_false]
theorem mt_nwS {d : Nat → Nat → Option Nat} {wa : Nat → Bool} {t i : Nat} : nwS (Ss d wa (t + 2)) i i = nwF (sgM d (Ss d wa (t + 1))) (fun _ => true) i := by
  rw [Bool.eq_iff_iff, nwS_iff, nw_iff']
  constructor
  · intro h
    refine ⟨rfl, fun j hj _ he => h j hj ?_⟩
    exact (nm_eq rfl rfl).mpr he
  · rintro ⟨_, h⟩ j hj he
    exact h j hj rfl ((nm_eq rfl rfl).mp he)
theorem mt_ren {d : Nat → Nat → Option Nat} {wa u : Nat → Bool} {c t : Nat} {mem : Nat → Nat} (hc : c ≤ 200) (hu : UOf d wa c u) (hdc : ∀ k x y, k < c → x < 8 → d k x = some y → y < c) (hm : MemOf d wa u c t mem) : Ren (fun g => Ss (dpr d u) wa (t + 2) (mem g)) (Fc d wa u c (t + 2)) 1024 := by
  have hS : ∀ g, g < Fc d wa u c (t + 2) → nwF (sgM (dpr d u) (Ss (dpr d u) wa (t + 1))) (fun _ => true) (mem g) = true ∧ Ss (dpr d u) wa (t + 2) (mem g) = cnt (nwF (sgM (dpr d u) (Ss (dpr d u) wa (t + 1))) (fun _ => true)) (mem g) := by
    intro g hg
    obtain ⟨h1, h2, h3⟩ := hm g hg
    have hn := mt_nw (t := t) hu hdc h1 (nw_iff.mp h2).1
    rw [h2] at hn
    exact ⟨hn, nm_nw hn⟩
  refine ⟨fun a b hab hb => ?_, fun a ha => ?_⟩
  · obtain ⟨a1, a2⟩ := hS a (by omega)
    obtain ⟨b1, b2⟩ := hS b hb
    show Ss (dpr d u) wa (t + 2) (mem a) < Ss (dpr d u) wa (t + 2) (mem b)
    rw [a2, b2]
    refine cnt_at a1 ?_
    have h1 := (hm a (by omega)).2.2
    have h2 := (hm b hb).2.2
    exact cnt_lt_of (b := nwF (sgC d (Gs d wa u (t + 1))) u) (by omega)
  · have : Ss (dpr d u) wa (t + 2) (mem a) < c := ss_bd (hm a ha).1
    show Ss (dpr d u) wa (t + 2) (mem a) < 1024
    omega
theorem mnD_mem {d : Nat → Nat → Option Nat} {S : Nat → Nat} {n : Nat} {q : Nat × Nat} : q ∈ mnD d S n ↔ ∃ k x j, k < n ∧ nwS S k k = true ∧ x < 8 ∧ d k x = some j ∧ q = (pkA (S k) x x (S j), 0) := by
  unfold mnD
  rw [fmN_mem]
  constructor
  · rintro ⟨k, hk, hq⟩
    split at hq
    · rename_i hn
      obtain ⟨x, h, hx, hg, rfl⟩ := drw_mem.mp hq
      unfold gb at hg
      cases hdx : d k x with
      | none => rw [hdx] at hg; cases hg
      | some j =>
        rw [hdx] at hg
        have := Option.some.inj hg
        exact ⟨k, x, j, hk, hn, hx, hdx, by rw [this]⟩
    · cases hq
  · rintro ⟨k, x, j, hk, hn, hx, hdx, rfl⟩
    refine ⟨k, hk, ?_⟩
    rw [if_pos hn]
    exact drw_mem.mpr ⟨x, S j, hx, by unfold gb; rw [hdx], rfl⟩
theorem drD_mem {d : Nat → Nat → Option Nat} {G : Nat → Option Nat} {mem : Nat → Nat} {F : Nat} {q : Nat × Nat} : q ∈ drD d G mem F ↔ ∃ g x j h, g < F ∧ x < 8 ∧ d (mem g) x = some j ∧ G j = some h ∧ q = (pkA g x x h, 0) := by
  unfold drD
  rw [fmN_mem]
  constructor
  · rintro ⟨g, hg, hq⟩
    obtain ⟨x, h, hx, hgb, rfl⟩ := drw_mem.mp hq
    unfold gb at hgb
    cases hdx : d (mem g) x with
    | none => rw [hdx] at hgb; cases hgb
    | some j => rw [hdx] at hgb; exact ⟨g, x, j, h, hg, hx, hdx, hgb, rfl⟩
  · rintro ⟨g, x, j, h, hg, hx, hdx, hgb, rfl⟩
    exact ⟨g, hg, drw_mem.mpr ⟨x, h, hx, by unfold gb; rw [hdx]; exact hgb, rfl⟩⟩
theorem Gs_some {d : Nat → Nat → Option Nat} {wa u : Nat → Bool} {t i g : Nat} (h : Gs d wa u t i = some g) : u i = true := by
  cases hu : u i with
  | true => rfl
  | false => rw [Gs_dead hu] at h; cases h
theorem mt_arcs {d : Nat → Nat → Option Nat} {wa u : Nat → Bool} {c t : Nat} {mem : Nat → Nat} (hF : Fc d wa u c (t + 2) ≤ 1024) (hu : UOf d wa c u) (hdc : ∀ k x y, k < c → x < 8 → d k x = some y → y < c) (hm : MemOf d wa u c t mem) (q : Nat × Nat) : q ∈ mnD (dpr d u) (Ss (dpr d u) wa (t + 2)) c ↔ ∃ a, a ∈ drD d (Gs d wa u (t + 2)) mem (Fc d wa u c (t + 2)) ∧ q = renA (fun g => Ss (dpr d u) wa (t + 2) (mem g)) a := by
  have hren : ∀ g x h, g < 1024 → x < 8 → h < 1024 → renA (fun g => Ss (dpr d u) wa (t + 2) (mem g)) (pkA g x x h, 0) = (pkA (Ss (dpr d u) wa (t + 2) (mem g)) x x (Ss (dpr d u) wa (t + 2) (mem h)), 0) := by
    intro g x h hg hx hh
    unfold renA
    have e1 : fr (pkA g x x h) = g := pkA_from (by omega) (by omega) (by omega)
    have e2 : too (pkA g x x h) = h := pkA_to (by omega)
    have e3 : upr (pkA g x x h) = x := pkA_upper (by omega) (by omega) (by omega)
    have e4 : lwr (pkA g x x h) = x := pkA_lower (by omega) (by omega)
    show (pkA (Ss (dpr d u) wa (t + 2) (mem (fr (pkA g x x h)))) (upr (pkA g x x h)) (lwr (pkA g x x h)) (Ss (dpr d u) wa (t + 2) (mem (too (pkA g x x h)))), 0) = _
    rw [e1, e2, e3, e4]
  rw [mnD_mem]
  constructor
  · rintro ⟨k, x, j, hk, hn, hx, hdx, rfl⟩
    obtain ⟨h1, h2⟩ := dpr_some.mp hdx
    have uk : u k = true := uof_st hu ⟨hk, x, hx, h1⟩ h2
    have hj := hdc k x j hk hx h1
    rw [mt_nwS, mt_nw hu hdc hk uk] at hn
    have hg : cnt (nwF (sgC d (Gs d wa u (t + 1))) u) k < Fc d wa u c (t + 2) := cnt_at hn hk
    obtain ⟨m1, m2, m3⟩ := hm _ hg
    have hmk := cnt_inj m2 hn m3
    obtain ⟨h, hh, hGj, hSj⟩ := mt_live hu hdc hm hj h2
    refine ⟨(pkA (cnt (nwF (sgC d (Gs d wa u (t + 1))) u) k) x x h, 0), drD_mem.mpr ⟨_, x, j, h, hg, hx, by rw [hmk]; exact h1, hGj, rfl⟩, ?_⟩
    rw [hren _ _ _ (by omega) hx (by omega), hmk, hSj]
  · rintro ⟨a, ha, rfl⟩
    obtain ⟨g, x, j, h, hg, hx, hdx, hGj, rfl⟩ := drD_mem.mp ha
    obtain ⟨m1, m2, m3⟩ := hm g hg
    have uj := Gs_some hGj
    have hj := hdc (mem g) x j m1 hx hdx
    obtain ⟨h', hh, hGj', hSj⟩ := mt_live hu hdc hm hj uj
    rw [hGj] at hGj'
    have e := Option.some.inj hGj'
    subst e
    refine ⟨mem g, x, j, m1, by rw [mt_nwS, mt_nw hu hdc m1 (nw_iff.mp m2).1]; exact m2, hx, dpr_some.mpr ⟨hdx, uj⟩, ?_⟩
    rw [hren _ _ _ (by omega) hx (by omega), hSj]
