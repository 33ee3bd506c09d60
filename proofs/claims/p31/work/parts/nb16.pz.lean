theorem map8 {α : Type} {f g : Nat → α} : (List.range 8).map f = (List.range 8).map g ↔ ∀ x, x < 8 → f x = g x := by
  constructor
  · intro h x hx
    have := congrArg (fun l => l[x]?) h
    simp only [List.getElem?_map, List.getElem?_range hx] at this
    exact Option.some.inj this
  · intro h
    exact List.map_congr_left (fun x hx => h x (List.mem_range.mp hx))
def gb (d : Nat → Nat → Option Nat) (G : Nat → Option Nat) (i x : Nat) : Option Nat := match d i x with | none => none | some k => G k
def sb (d : Nat → Nat → Option Nat) (S : Nat → Nat) (i x : Nat) : Option Nat := match d i x with | none => none | some k => some (S k)
def sgC (d : Nat → Nat → Option Nat) (G : Nat → Option Nat) (i : Nat) : Sg := (G i, (List.range 8).map (gb d G i))
def sgM (d : Nat → Nat → Option Nat) (S : Nat → Nat) (i : Nat) : Sg := (some (S i), (List.range 8).map (sb d S i))
theorem sgC_eq {d : Nat → Nat → Option Nat} {G : Nat → Option Nat} {i j : Nat} : sgC d G i = sgC d G j ↔ G i = G j ∧ ∀ x, x < 8 → gb d G i x = gb d G j x := by
  unfold sgC
  rw [Prod.mk.injEq, map8]
theorem sgM_eq {d : Nat → Nat → Option Nat} {S : Nat → Nat} {i j : Nat} : sgM d S i = sgM d S j ↔ S i = S j ∧ ∀ x, x < 8 → sb d S i x = sb d S j x := by
  unfold sgM
  rw [Prod.mk.injEq, map8, Option.some.injEq]
def Gs (d : Nat → Nat → Option Nat) (wa u : Nat → Bool) : Nat → Nat → Option Nat
  | 0 => fun i => if u i = true then some (if wa i = true then 1 else 0) else none
  | t + 1 => fun i => if u i = true then some (nmF (sgC d (Gs d wa u t)) u i) else none
def Ss (d : Nat → Nat → Option Nat) (wa : Nat → Bool) : Nat → Nat → Nat
  | 0 => fun i => if wa i = true then 1 else 0
  | t + 1 => fun i => nmF (sgM d (Ss d wa t)) (fun _ => true) i
theorem Gs_dead {d : Nat → Nat → Option Nat} {wa u : Nat → Bool} {t i : Nat} (h : u i = false) : Gs d wa u t i = none := by
  cases t with
  | zero => show (if u i = true then _ else none) = none; rw [h]; rfl
  | succ t => show (if u i = true then _ else none) = none; rw [h]; rfl
theorem Gs_live {d : Nat → Nat → Option Nat} {wa u : Nat → Bool} {t i : Nat} (h : u i = true) : ∃ g, Gs d wa u t i = some g := by
  cases t with
  | zero => exact ⟨_, by show (if u i = true then _ else none) = _; rw [if_pos h]⟩
  | succ t => exact ⟨_, by show (if u i = true then _ else none) = _; rw [if_pos h]⟩
theorem dpr_some {d : Nat → Nat → Option Nat} {u : Nat → Bool} {i x k : Nat} : dpr d u i x = some k ↔ d i x = some k ∧ u k = true := by
  unfold dpr
  cases d i x with
  | none => exact ⟨fun h => (by cases h), fun h => (by cases h.1)⟩
  | some j =>
    show (if u j = true then some j else none) = some k ↔ _
    by_cases c : u j = true
    · rw [if_pos c]
      exact ⟨fun h => by rw [← Option.some.inj h]; exact ⟨rfl, c⟩, fun h => h.1⟩
    · rw [if_neg c]
      exact ⟨fun h => (by cases h), fun h => by rw [Option.some.inj h.1] at c; exact absurd h.2 c⟩
theorem gb_dpr {d : Nat → Nat → Option Nat} {wa u : Nat → Bool} {t i x : Nat} : gb d (Gs d wa u t) i x = match dpr d u i x with | none => none | some k => Gs d wa u t k := by
  unfold gb dpr
  cases d i x with
  | none => rfl
  | some j =>
    show Gs d wa u t j = match (if u j = true then some j else none) with | none => none | some k => Gs d wa u t k
    by_cases c : u j = true
    · rw [if_pos c]
    · rw [if_neg c]
      exact Gs_dead (by cases h : u j with | true => exact absurd h c | false => rfl)
def Rel (d : Nat → Nat → Option Nat) (wa u : Nat → Bool) (c t : Nat) : Prop :=
  (∀ i j, i < c → j < c → u i = true → u j = true → (Gs d wa u t i = Gs d wa u t j ↔ Ss (dpr d u) wa t i = Ss (dpr d u) wa t j)) ∧ (∀ i j, i < c → j < c → Ss (dpr d u) wa t i = Ss (dpr d u) wa t j → wa i = wa j) ∧ ∀ i j, i < c → j < c → u i = false → u j = false → Ss (dpr d u) wa t i = Ss (dpr d u) wa t j
theorem dead_next {d : Nat → Nat → Option Nat} {wa u : Nat → Bool} {c k x : Nat} (hu : UOf d wa c u) (hk : k < c) (hd : u k = false) (hx : x < 8) : dpr d u k x = none := by
  cases h : dpr d u k x with
  | none => rfl
  | some j =>
    obtain ⟨h1, h2⟩ := dpr_some.mp h
    rw [uof_st hu ⟨hk, x, hx, h1⟩ h2] at hd; cases hd
theorem dead_wa {d : Nat → Nat → Option Nat} {wa u : Nat → Bool} {c k : Nat} (hu : UOf d wa c u) (hk : k < c) (hd : u k = false) : wa k = false := by
  cases h : wa k with
  | false => rfl
  | true => rw [uof_wa hu hk h] at hd; cases hd
theorem sg_live {d : Nat → Nat → Option Nat} {wa u : Nat → Bool} {c t i j : Nat} (hR : Rel d wa u c t) (hdc : ∀ k x y, k < c → x < 8 → d k x = some y → y < c) (hi : i < c) (hj : j < c) (ui : u i = true) (uj : u j = true) : sgC d (Gs d wa u t) i = sgC d (Gs d wa u t) j ↔ sgM (dpr d u) (Ss (dpr d u) wa t) i = sgM (dpr d u) (Ss (dpr d u) wa t) j := by
  rw [sgC_eq, sgM_eq, hR.1 i j hi hj ui uj]
  have : ∀ x, x < 8 → (gb d (Gs d wa u t) i x = gb d (Gs d wa u t) j x ↔ sb (dpr d u) (Ss (dpr d u) wa t) i x = sb (dpr d u) (Ss (dpr d u) wa t) j x) := by
    intro x hx
    rw [gb_dpr, gb_dpr]
    unfold sb
    cases ha : dpr d u i x with
    | none =>
      cases hb : dpr d u j x with
      | none => exact ⟨fun _ => rfl, fun _ => rfl⟩
      | some b =>
        obtain ⟨b1, b2⟩ := dpr_some.mp hb
        obtain ⟨g, hg⟩ := Gs_live (d := d) (wa := wa) (t := t) b2
        show none = Gs d wa u t b ↔ none = some _
        rw [hg]
        exact ⟨fun h => (by cases h), fun h => (by cases h)⟩
    | some a =>
      obtain ⟨a1, a2⟩ := dpr_some.mp ha
      cases hb : dpr d u j x with
      | none =>
        obtain ⟨g, hg⟩ := Gs_live (d := d) (wa := wa) (t := t) a2
        show Gs d wa u t a = none ↔ some _ = none
        rw [hg]
        exact ⟨fun h => (by cases h), fun h => (by cases h)⟩
      | some b =>
        obtain ⟨b1, b2⟩ := dpr_some.mp hb
        show Gs d wa u t a = Gs d wa u t b ↔ some _ = some _
        rw [Option.some.injEq]
        exact hR.1 a b (hdc i x a hi hx a1) (hdc j x b hj hx b1) a2 b2
  constructor
  · rintro ⟨h1, h2⟩; exact ⟨h1, fun x hx => (this x hx).mp (h2 x hx)⟩
  · rintro ⟨h1, h2⟩; exact ⟨h1, fun x hx => (this x hx).mpr (h2 x hx)⟩
theorem sg_dead {d : Nat → Nat → Option Nat} {wa u : Nat → Bool} {c t i k : Nat} (hu : UOf d wa c u) (hR : Rel d wa u c t) (hi : i < c) (hk : k < c) (ui : u i = true) (uk : u k = false) : sgM (dpr d u) (Ss (dpr d u) wa t) i ≠ sgM (dpr d u) (Ss (dpr d u) wa t) k := by
  intro h
  rw [sgM_eq] at h
  have h1 := hR.2.1 i k hi hk h.1
  rw [dead_wa hu hk uk] at h1
  obtain ⟨_, j, hj, hw, hr⟩ := (hu i).mp ui
  rcases hr.case with e | ⟨y, ⟨_, x, hx, hy⟩, hr2⟩
  · rw [e, h1] at hw; cases hw
  · have hyc : y < c := by
      rcases hr2.case with e | ⟨z, hz, _⟩
      · rw [← e]; exact hj
      · exact hz.1
    have uy : u y = true := (hu y).mpr ⟨hyc, j, hj, hw, hr2⟩
    have h2 := h.2 x hx
    unfold sb at h2
    rw [dpr_some.mpr ⟨hy, uy⟩, dead_next hu hk uk hx] at h2
    cases h2
theorem rel_all {d : Nat → Nat → Option Nat} {wa u : Nat → Bool} {c : Nat} (hu : UOf d wa c u) (hdc : ∀ k x y, k < c → x < 8 → d k x = some y → y < c) : ∀ t, Rel d wa u c t
  | 0 => by
    refine ⟨fun i j hi hj ui uj => ?_, fun i j hi hj h => ?_, fun i j hi hj ui uj => ?_⟩
    · show (if u i = true then some (if wa i = true then 1 else 0) else none) = (if u j = true then some (if wa j = true then 1 else 0) else none) ↔ (if wa i = true then 1 else 0) = (if wa j = true then 1 else 0)
      rw [if_pos ui, if_pos uj, Option.some.injEq]
    · have h : (if wa i = true then 1 else 0) = (if wa j = true then 1 else 0) := h
      cases a : wa i <;> cases b : wa j
      · rfl
      · rw [a, b] at h; cases h
      · rw [a, b] at h; cases h
      · rfl
    · show (if wa i = true then 1 else 0) = (if wa j = true then 1 else 0)
      rw [dead_wa hu hi ui, dead_wa hu hj uj]
  | t + 1 => by
    have hR := rel_all hu hdc t
    refine ⟨fun i j hi hj ui uj => ?_, fun i j hi hj h => ?_, fun i j hi hj ui uj => ?_⟩
    · show (if u i = true then some (nmF (sgC d (Gs d wa u t)) u i) else none) = (if u j = true then some (nmF (sgC d (Gs d wa u t)) u j) else none) ↔ nmF (sgM (dpr d u) (Ss (dpr d u) wa t)) (fun _ => true) i = nmF (sgM (dpr d u) (Ss (dpr d u) wa t)) (fun _ => true) j
      rw [if_pos ui, if_pos uj, Option.some.injEq, nm_eq ui uj, nm_eq rfl rfl]
      exact sg_live hR hdc hi hj ui uj
    · have h : nmF (sgM (dpr d u) (Ss (dpr d u) wa t)) (fun _ => true) i = nmF (sgM (dpr d u) (Ss (dpr d u) wa t)) (fun _ => true) j := h
      rw [nm_eq rfl rfl, sgM_eq] at h
      exact hR.2.1 i j hi hj h.1
    · show nmF (sgM (dpr d u) (Ss (dpr d u) wa t)) (fun _ => true) i = nmF (sgM (dpr d u) (Ss (dpr d u) wa t)) (fun _ => true) j
      rw [nm_eq rfl rfl, sgM_eq]
      refine ⟨hR.2.2 i j hi hj ui uj, fun x hx => ?_⟩
      unfold sb
      rw [dead_next hu hi ui hx, dead_next hu hj uj hx]
theorem rp_same {d : Nat → Nat → Option Nat} {wa u : Nat → Bool} {c t i : Nat} (hu : UOf d wa c u) (hdc : ∀ k x y, k < c → x < 8 → d k x = some y → y < c) (hi : i < c) (ui : u i = true) : rpF (sgM (dpr d u) (Ss (dpr d u) wa t)) (fun _ => true) i = rpF (sgC d (Gs d wa u t)) u i := by
  have hR := rel_all (wa := wa) hu hdc t
  obtain ⟨a1, a2, a3, a4⟩ := rp_spec (sig := sgC d (Gs d wa u t)) ui
  refine rp_of rfl rfl ((sg_live hR hdc (by omega) hi a2 ui).mp a3) a1 (fun j hj _ he => ?_)
  cases uj : u j with
  | true => exact a4 j hj uj ((sg_live hR hdc (by omega) hi uj ui).mpr he)
  | false => exact sg_dead hu hR hi (by omega : j < c) ui uj he.symm
def ndF (u : Nat → Bool) (i : Nat) : Bool := !u i && (List.range i).all u
theorem nw_split {d : Nat → Nat → Option Nat} {wa u : Nat → Bool} {c t i : Nat} (hu : UOf d wa c u) (hdc : ∀ k x y, k < c → x < 8 → d k x = some y → y < c) (hi : i < c) : nwF (sgM (dpr d u) (Ss (dpr d u) wa t)) (fun _ => true) i = (nwF (sgC d (Gs d wa u t)) u i || ndF u i) := by
  have hR := rel_all (wa := wa) hu hdc t
  rw [Bool.eq_iff_iff, Bool.or_eq_true]
  cases ui : u i with
  | true =>
    have hn : ndF u i = false := by unfold ndF; rw [ui]; rfl
    rw [hn, nw_iff, nw_iff, rp_same hu hdc hi ui]
    constructor
    · rintro ⟨_, h⟩; exact Or.inl ⟨ui, h⟩
    · rintro (⟨_, h⟩ | h)
      · exact ⟨rfl, h⟩
      · cases h
  | false =>
    have hn : nwF (sgC d (Gs d wa u t)) u i = false := by unfold nwF; rw [ui]; rfl
    rw [hn, nw_iff']
    constructor
    · rintro ⟨_, h⟩
      right
      unfold ndF
      rw [ui, List.all_eq_true.mpr (fun j hj => ?_)]
      · rfl
      · have hj := List.mem_range.mp hj
        cases uj : u j with
        | true => rfl
        | false =>
          exfalso
          refine h j hj rfl (sgM_eq.mpr ⟨hR.2.2 j i (by omega) hi uj ui, fun x hx => ?_⟩)
          unfold sb
          rw [dead_next hu (by omega : j < c) uj hx, dead_next hu hi ui hx]
    · rintro (h | h)
      · cases h
      · unfold ndF at h
        rw [Bool.and_eq_true, List.all_eq_true] at h
        exact ⟨rfl, fun j hj _ => sg_dead hu hR (by omega) hi (h.2 j (List.mem_range.mpr hj)) ui⟩
theorem cnt_cg {a b : Nat → Bool} : ∀ {n : Nat}, (∀ i, i < n → a i = b i) → cnt a n = cnt b n
  | 0, _ => rfl
  | n + 1, h => by rw [cnt, cnt, cnt_cg (n := n) (fun i hi => h i (by omega)), h n (by omega)]
theorem cnt_or {b e : Nat → Bool} (hne : ∀ i, ¬ (b i = true ∧ e i = true)) : ∀ n, cnt (fun i => b i || e i) n = cnt b n + cnt e n
  | 0 => rfl
  | n + 1 => by
    rw [cnt, cnt, cnt, cnt_or hne n]
    have := hne n
    cases hb : b n <;> cases he : e n
    · rfl
    · simp; omega
    · simp; omega
    · exact absurd ⟨hb, he⟩ this
def Fc (d : Nat → Nat → Option Nat) (wa u : Nat → Bool) (c : Nat) : Nat → Nat
  | 0 => 0
  | t + 1 => cnt (nwF (sgC d (Gs d wa u t)) u) c
def Mc (d : Nat → Nat → Option Nat) (wa : Nat → Bool) (c : Nat) : Nat → Nat
  | 0 => 0
  | t + 1 => cnt (nwF (sgM d (Ss d wa t)) (fun _ => true)) c
theorem mc_fc {d : Nat → Nat → Option Nat} {wa u : Nat → Bool} {c : Nat} (hu : UOf d wa c u) (hdc : ∀ k x y, k < c → x < 8 → d k x = some y → y < c) (t : Nat) : Mc (dpr d u) wa c (t + 1) = Fc d wa u c (t + 1) + cnt (ndF u) c := by
  show cnt (nwF (sgM (dpr d u) (Ss (dpr d u) wa t)) (fun _ => true)) c = cnt (nwF (sgC d (Gs d wa u t)) u) c + cnt (ndF u) c
  rw [cnt_cg (fun i hi => nw_split hu hdc hi)]
  refine cnt_or (fun i => ?_) c
  rintro ⟨h1, h2⟩
  have := (nw_iff.mp h1).1
  unfold ndF at h2
  rw [this] at h2
  cases h2
theorem fc_mono {d : Nat → Nat → Option Nat} {wa u : Nat → Bool} {c : Nat} (t : Nat) : Fc d wa u c (t + 1) ≤ Fc d wa u c (t + 2) := by
  refine cnt_mono (fun i hi => ?_) c
  rw [nw_iff'] at hi ⊢
  refine ⟨hi.1, fun j hj uj he => hi.2 j hj uj ?_⟩
  have h1 := (sgC_eq.mp he).1
  have h1 : (if u j = true then some (nmF (sgC d (Gs d wa u t)) u j) else none) = (if u i = true then some (nmF (sgC d (Gs d wa u t)) u i) else none) := h1
  rw [if_pos uj, if_pos hi.1, Option.some.injEq, nm_eq uj hi.1] at h1
  exact h1
theorem mc_mono {d : Nat → Nat → Option Nat} {wa : Nat → Bool} (t : Nat) : (∀ i, nwF (sgM d (Ss d wa t)) (fun _ => true) i = true → nwF (sgM d (Ss d wa (t + 1))) (fun _ => true) i = true) := by
  intro i hi
  rw [nw_iff'] at hi ⊢
  refine ⟨rfl, fun j hj uj he => hi.2 j hj rfl ?_⟩
  have h1 := (sgM_eq.mp he).1
  have h1 : nmF (sgM d (Ss d wa t)) (fun _ => true) j = nmF (sgM d (Ss d wa t)) (fun _ => true) i := h1
  rw [nm_eq rfl rfl] at h1
  exact h1
theorem cnt_same {a b : Nat → Bool} (h : ∀ i, a i = true → b i = true) {n : Nat} (e : cnt b n = cnt a n) : ∀ i, i < n → b i = true → a i = true := by
  intro i hi hb
  cases ha : a i with
  | true => rfl
  | false =>
    have := cnt_lt h hb ha n hi
    omega
theorem mc_stable {d : Nat → Nat → Option Nat} {wa : Nat → Bool} {c t : Nat} (hdc : ∀ k x y, k < c → x < 8 → d k x = some y → y < c) (h : Mc d wa c (t + 2) = Mc d wa c (t + 1)) {i j : Nat} (hi : i < c) (hj : j < c) (he : Ss d wa (t + 2) i = Ss d wa (t + 2) j) : ∀ x, x < 8 → sb d (Ss d wa (t + 2)) i x = sb d (Ss d wa (t + 2)) j x := by
  have hst : ∀ i j, i < c → j < c → Ss d wa (t + 1) i = Ss d wa (t + 1) j → sgM d (Ss d wa (t + 1)) i = sgM d (Ss d wa (t + 1)) j := by
    intro i j hi hj he
    obtain ⟨a1, _, a3, _⟩ := rp_spec (sig := sgM d (Ss d wa (t + 1))) (U := fun _ => true) (i := i) rfl
    obtain ⟨b1, _, b3, _⟩ := rp_spec (sig := sgM d (Ss d wa (t + 1))) (U := fun _ => true) (i := j) rfl
    have na := cnt_same (mc_mono (d := d) (wa := wa) t) h _ (by omega) (nw_rp (sig := sgM d (Ss d wa (t + 1))) (U := fun _ => true) (i := i) rfl)
    have nb := cnt_same (mc_mono (d := d) (wa := wa) t) h _ (by omega) (nw_rp (sig := sgM d (Ss d wa (t + 1))) (U := fun _ => true) (i := j) rfl)
    obtain ⟨ρ, hρ⟩ : ∃ ρ, ρ = rpF (sgM d (Ss d wa (t + 1))) (fun _ => true) i := ⟨_, rfl⟩
    obtain ⟨τ, hτ⟩ : ∃ τ, τ = rpF (sgM d (Ss d wa (t + 1))) (fun _ => true) j := ⟨_, rfl⟩
    rw [← hρ] at a1 a3 na
    rw [← hτ] at b1 b3 nb
    have e1 := (sgM_eq.mp a3).1
    have e2 := (sgM_eq.mp b3).1
    have e3 : Ss d wa (t + 1) ρ = Ss d wa (t + 1) τ := by rw [e1, he, ← e2]
    have e3 : nmF (sgM d (Ss d wa t)) (fun _ => true) ρ = nmF (sgM d (Ss d wa t)) (fun _ => true) τ := e3
    rw [nm_eq rfl rfl, ← rp_eq (U := fun _ => true) rfl rfl, (nw_iff.mp na).2, (nw_iff.mp nb).2] at e3
    rw [← a3, e3, b3]
  have h2 : ∀ i j, i < c → j < c → (Ss d wa (t + 2) i = Ss d wa (t + 2) j ↔ Ss d wa (t + 1) i = Ss d wa (t + 1) j) := by
    intro i j hi hj
    show nmF (sgM d (Ss d wa (t + 1))) (fun _ => true) i = nmF (sgM d (Ss d wa (t + 1))) (fun _ => true) j ↔ _
    rw [nm_eq rfl rfl]
    exact ⟨fun h => (sgM_eq.mp h).1, hst i j hi hj⟩
  intro x hx
  have h3 := (sgM_eq.mp (hst i j hi hj ((h2 i j hi hj).mp he))).2 x hx
  unfold sb at h3 ⊢
  cases ha : d i x with
  | none =>
    cases hb : d j x with
    | none => rfl
    | some b => rw [ha, hb] at h3; cases h3
  | some a =>
    cases hb : d j x with
    | none => rw [ha, hb] at h3; cases h3
    | some b =>
      rw [ha, hb] at h3
      have h3 := Option.some.inj h3
      show some _ = some _
      rw [(h2 a b (hdc i x a hi hx ha) (hdc j x b hj hx hb)).mpr h3]
