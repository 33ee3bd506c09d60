
/-! looks as ways through the machine -/
def rdg (u : Bool) : Nat → Nat := if u = true then lwr else upr
theorem rdW_u {u : Bool} {q : Nat × Nat} : rdW (wU u) q = rdg u q.1 := by cases u <;> rfl
theorem syW_u {u : Bool} {q : Nat × Nat} : syW (wU u) q = rdg (!u) q.1 := by cases u <;> rfl
def AnU (u : Bool) (n : Nat) (f : Nat → Bool) (L : ArL) (w ρ : List Nat) : Prop := ∃ P t, Pth L 0 P t ∧ t < n ∧ f t = true ∧ wdg (rdg u) P = w ∧ wdg (rdg (!u)) P = ρ.reverse
theorem AnU.sym {u : Bool} {n : Nat} {f : Nat → Bool} {L : ArL} {w ρ : List Nat} (h : AnU u n f L w ρ) : AnU (!u) n f L ρ.reverse w.reverse := by
  obtain ⟨P, t, h1, h2, h3, h4, h5⟩ := h
  exact ⟨P, t, h1, h2, h3, h5, by rw [Bool.not_not, h4, List.reverse_reverse]⟩
section EDGE
variable {u : Bool} {L : ArL} {w : List Nat} {δ : Nat → Nat} {n : Nat} {f : Nat → Bool}
theorem eg_e {q : Nat × Nat} {p : Nat} (hq : q ∈ L) (hp : p ≤ w.length) (h : rdg u q.1 = 8) : Eg (wU u) L w (32 * p + fr q.1) q.2 (32 * p + too q.1) (rdg (!u) q.1) := by
  refine ⟨p, hp, Or.inl ⟨q, hq, ?_, rfl, rfl, syW_u.symm⟩⟩
  unfold cSt
  rw [if_neg (wU_lt u).1, rdW_u, if_pos h]
theorem eg_r {q : Nat × Nat} {p : Nat} (hq : q ∈ L) (hw : w[p]? = some (rdg u q.1)) (h : rdg u q.1 ≠ 8) : Eg (wU u) L w (32 * p + fr q.1) q.2 (32 * (p + 1) + too q.1) (rdg (!u) q.1) := by
  have hl := (List.getElem?_eq_some_iff.mp hw).1
  refine ⟨p, by omega, Or.inr (Or.inl ⟨q, hq, ?_, rfl, rfl, syW_u.symm⟩)⟩
  unfold cRd
  rw [hw]
  show (if rdW (wU u) q = 8 then none else if wU u = 2 then some _ else if rdW (wU u) q = rdg u q.1 then some q.2 else none) = _
  rw [rdW_u, if_neg h, if_neg (wU_lt u).1, if_pos rfl]
theorem eg_inv {a c b y : Nat} (h : Eg (wU u) L w a c b y) : ∃ p q, q ∈ L ∧ p ≤ w.length ∧ a = 32 * p + fr q.1 ∧ y = rdg (!u) q.1 ∧ ((rdg u q.1 = 8 ∧ b = 32 * p + too q.1) ∨ (w[p]? = some (rdg u q.1) ∧ rdg u q.1 ≠ 8 ∧ b = 32 * (p + 1) + too q.1)) := by
  obtain ⟨p, hp, hE⟩ := h
  rcases hE with ⟨q, hq, h1, h2, h3, h4⟩ | ⟨q, hq, h1, h2, h3, h4⟩ | ⟨s, hs, h1, h2, h3, h4⟩
  · rw [syW_u] at h4
    refine ⟨p, q, hq, hp, h2, h4, Or.inl ⟨?_, h3⟩⟩
    unfold cSt at h1
    rw [if_neg (wU_lt u).1, rdW_u] at h1
    by_cases c : rdg u q.1 = 8
    · exact c
    · rw [if_neg c] at h1; cases h1
  · rw [syW_u] at h4
    refine ⟨p, q, hq, hp, h2, h4, Or.inr ?_⟩
    unfold cRd at h1
    cases e : w[p]? with
    | none => rw [e] at h1; cases h1
    | some x =>
      rw [e] at h1
      have h1 : (if rdW (wU u) q = 8 then none else if wU u = 2 then some (if rdW (wU u) q = x then 0 else 1) else if rdW (wU u) q = x then some q.2 else none) = some c := h1
      rw [rdW_u, if_neg (wU_lt u).1] at h1
      by_cases c8 : rdg u q.1 = 8
      · rw [if_pos c8] at h1; cases h1
      · rw [if_neg c8] at h1
        by_cases cx : rdg u q.1 = x
        · exact ⟨by rw [cx], c8, h3⟩
        · rw [if_neg cx] at h1; cases h1
  · have := (cSk_lt h1).2.2
    exact absurd this (wU_lt u).1
/-- a state of a look, with the way that leads to it -/
def StL (u : Bool) (L : ArL) (w ρ : List Nat) (a : Nat) : Prop := ∃ P p s, Pth L 0 P s ∧ a = 32 * p + s ∧ s < 32 ∧ p ≤ w.length ∧ wdg (rdg u) P = w.take p ∧ wdg (rdg (!u)) P = ρ.reverse
theorem take_s {p x : Nat} (h : w[p]? = some x) : w.take (p + 1) = w.take p ++ [x] := by
  rw [List.take_add_one, h]
  rfl
theorem stl_st (hok : DOK n L) (hn : n ≤ 32) {ρ : List Nat} {a c b y : Nat} (h : StL u L w ρ a) (hE : Eg (wU u) L w a c b y) : StL u L w (if y = 8 then ρ else y :: ρ) b := by
  obtain ⟨P, p, s, h1, h2, h3, h4, h5, h6⟩ := h
  obtain ⟨p', q, k1, k2, k3, k4, k5⟩ := eg_inv hE
  have a1 := (hok q k1).2.1
  have a2 := (hok q k1).2.2.1
  have ep : p' = p := by omega
  have es : fr q.1 = s := by omega
  subst ep
  have hsy : wdg (rdg (!u)) (P ++ [q]) = (if y = 8 then ρ else y :: ρ).reverse := by
    rw [wdg_app, wdg_c, ← k4, h6]
    by_cases c8 : y = 8
    · rw [if_pos c8, if_pos c8, wdg_nil, List.append_nil]
    · rw [if_neg c8, if_neg c8, wdg_nil, List.reverse_cons]
  rcases k5 with ⟨g1, g2⟩ | ⟨g1, g2, g3⟩
  · refine ⟨P ++ [q], p', too q.1, h1.snoc k1 es, g2, by omega, h4, ?_, hsy⟩
    rw [wdg_app, wdg_c, if_pos g1, wdg_nil, List.append_nil, h5]
  · have hl := (List.getElem?_eq_some_iff.mp g1).1
    refine ⟨P ++ [q], p' + 1, too q.1, h1.snoc k1 es, g3, by omega, by omega, ?_, hsy⟩
    rw [wdg_app, wdg_c, if_neg g2, wdg_nil, h5, take_s g1]
theorem stl_cl (hok : DOK n L) (hn : n ≤ 32) {ρ : List Nat} {ch : Bool} {K : Nat → Prop} (hK : ∀ a, K a → StL u L w ρ a) {a : Nat} (h : CloK (Sy (wU u) L w δ ch 8) K a) : StL u L w ρ a := by
  obtain ⟨a0, h1, h2⟩ := h
  exact h2 (fun a => StL u L w ρ a) (hK a0 h1) (fun x y hx ⟨c, hE, _⟩ => by
    have := stl_st hok hn hx hE
    rw [if_pos rfl] at this
    exact this)
theorem stl_sd (hok : DOK n L) (hn : n ≤ 32) {ch : Bool} : ∀ (ρ : List Nat), (∀ z, z ∈ ρ → z < 8) → ∀ b, SdR (wU u) L w δ ch ρ b → StL u L w ρ b
  | [], _, b, h => by
    have h : b = 0 := h
    subst h
    exact ⟨[], 0, 0, rfl, rfl, by omega, Nat.zero_le _, rfl, rfl⟩
  | x :: ρ, hz, b, h => by
    obtain ⟨a, h1, c, hE, _⟩ := h
    have ha := stl_cl hok hn (stl_sd hok hn ρ (fun z hz' => hz z (List.mem_cons_of_mem _ hz'))) h1
    have := stl_st hok hn ha hE
    have hx := hz x List.mem_cons_self
    rw [if_neg (by omega)] at this
    exact this
theorem dl_fin (hδ : IsD (eU u L w) (En n f w) δ) {t : Nat} (ht : t < n) (hf : f t = true) : ∀ (P : ArL) (p s : Nat), p ≤ w.length → Pth L s P t → wdg (rdg u) P = w.drop p → δ (32 * p + s) < 1000000000
  | [], p, s, hp, h, hw => by
    have h : s = t := h
    subst h
    have hl : (w.drop p).length = 0 := by rw [← hw]; rfl
    rw [List.length_drop] at hl
    have e : p = w.length := by omega
    subst e
    rw [hδ.en ⟨s, ht, hf, rfl⟩]
    omega
  | q :: P, p, s, hp, h, hw => by
    obtain ⟨h1, h2, h3⟩ := h
    rw [wdg_c] at hw
    by_cases c : rdg u q.1 = 8
    · rw [if_pos c] at hw
      have := dl_fin hδ ht hf P p (too q.1) hp h3 hw
      have hE := eg_e (u := u) (w := w) h1 hp c
      rw [h2] at hE
      exact (hδ.st ⟨_, hE⟩ this).2
    · rw [if_neg c] at hw
      have hg : w[p]? = some (rdg u q.1) := by
        have := congrArg (fun l => l[0]?) hw
        simp only [List.getElem?_drop, List.getElem?_cons_zero, Nat.add_zero] at this
        exact this.symm
      have hl := (List.getElem?_eq_some_iff.mp hg).1
      have hw2 : wdg (rdg u) P = w.drop (p + 1) := by
        have := congrArg List.tail hw
        rw [List.tail_cons, List.tail_drop] at this
        exact this
      have := dl_fin hδ ht hf P (p + 1) (too q.1) (by omega) h3 hw2
      have hE := eg_r (u := u) h1 hg c
      rw [h2] at hE
      exact (hδ.st ⟨_, hE⟩ this).2
theorem dl_cp (hδ : IsD (eU u L w) (En n f w) δ) {t : Nat} (ht : t < n) (hf : f t = true) : ∀ (P : ArL) (p s : Nat) (ρ : List Nat), p ≤ w.length → Pth L s P t → wdg (rdg u) P = w.drop p → CpR (wU u) L w δ false ρ (32 * p + s) → CpR (wU u) L w δ false ((wdg (rdg (!u)) P).reverse ++ ρ) (32 * w.length + t)
  | [], p, s, ρ, hp, h, hw, hC => by
    have h : s = t := h
    subst h
    have hl : (w.drop p).length = 0 := by rw [← hw]; rfl
    rw [List.length_drop] at hl
    have e : p = w.length := by omega
    subst e
    exact hC
  | q :: P, p, s, ρ, hp, h, hw, hC => by
    obtain ⟨h1, h2, h3⟩ := h
    rw [wdg_c] at hw
    have step : ∀ p', p' ≤ w.length → wdg (rdg u) P = w.drop p' → (∃ c, Eg (wU u) L w (32 * p + s) c (32 * p' + too q.1) (rdg (!u) q.1)) → CpR (wU u) L w δ false ((wdg (rdg (!u)) (q :: P)).reverse ++ ρ) (32 * w.length + t) := by
      rintro p' hp' hw' ⟨c, hE⟩
      have hfin := dl_fin hδ ht hf P p' (too q.1) hp' h3 hw'
      have hS : Sy (wU u) L w δ false (rdg (!u) q.1) (32 * p + s) (32 * p' + too q.1) := ⟨c, hE, hfin, fun h => by cases h⟩
      rw [wdg_c]
      by_cases c8 : rdg (!u) q.1 = 8
      · rw [if_pos c8]
        rw [c8] at hS
        obtain ⟨a0, k1, k2⟩ := hC
        exact dl_cp hδ ht hf P p' (too q.1) ρ hp' h3 hw' ⟨a0, k1, k2.st hS⟩
      · rw [if_neg c8, List.reverse_cons, List.append_assoc]
        exact dl_cp hδ ht hf P p' (too q.1) (rdg (!u) q.1 :: ρ) hp' h3 hw' ⟨_, ⟨_, hC, hS⟩, Rc.rf⟩
    by_cases c : rdg u q.1 = 8
    · rw [if_pos c] at hw
      have hE := eg_e (u := u) (w := w) h1 hp c
      rw [h2] at hE
      exact step p hp hw ⟨_, hE⟩
    · rw [if_neg c] at hw
      have hg : w[p]? = some (rdg u q.1) := by
        have := congrArg (fun l => l[0]?) hw
        simp only [List.getElem?_drop, List.getElem?_cons_zero, Nat.add_zero] at this
        exact this.symm
      have hl := (List.getElem?_eq_some_iff.mp hg).1
      have hw2 : wdg (rdg u) P = w.drop (p + 1) := by
        have := congrArg List.tail hw
        rw [List.tail_cons, List.tail_drop] at this
        exact this
      have hE := eg_r (u := u) h1 hg c
      rw [h2] at hE
      exact step (p + 1) (by omega) hw2 ⟨_, hE⟩
theorem an_fin (hδ : IsD (eU u L w) (En n f w) δ) {ρ : List Nat} (h : AnU u n f L w ρ) : δ 0 < 1000000000 := by
  obtain ⟨P, t, h1, h2, h3, h4, h5⟩ := h
  exact dl_fin hδ h2 h3 P 0 0 (Nat.zero_le _) h1 h4
theorem an_of (hδ : IsD (eU u L w) (En n f w) δ) {ρ : List Nat} (h : AnU u n f L w ρ) : AnK n f w (CpR (wU u) L w δ false ρ) := by
  obtain ⟨P, t, h1, h2, h3, h4, h5⟩ := h
  refine ⟨t, h2, h3, ?_⟩
  have := dl_cp hδ h2 h3 P 0 0 [] (Nat.zero_le _) h1 h4 ⟨0, rfl, Rc.rf⟩
  rw [h5, List.reverse_reverse, List.append_nil] at this
  exact this
theorem an_to (hok : DOK n L) (hn : n ≤ 32) {ch : Bool} {ρ : List Nat} (hz : ∀ z, z ∈ ρ → z < 8) (h : AnK n f w (CpR (wU u) L w δ ch ρ)) : AnU u n f L w ρ := by
  obtain ⟨t, h2, h3, hC⟩ := h
  obtain ⟨P, p, s, k1, k2, k3, k4, k5, k6⟩ := stl_cl hok hn (stl_sd hok hn ρ hz) hC
  have ep : p = w.length := by omega
  have es : s = t := by omega
  subst ep
  subst es
  exact ⟨P, s, k1, h2, h3, by rw [k5, List.take_length], k6⟩
/-- a cheapest answer is an answer -/
theorem sy_f {way x a b : Nat} {ch : Bool} (h : Sy way L w δ ch x a b) : Sy way L w δ false x a b := by
  obtain ⟨c, h1, h2, h3⟩ := h
  exact ⟨c, h1, h2, fun h => by cases h⟩
end EDGE
