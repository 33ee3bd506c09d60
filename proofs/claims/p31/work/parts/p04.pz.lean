
/-! what plain machines accept, by the sets of states behind a word -/
def wdg (g : Nat → Nat) (P : ArL) : List Nat := (P.map (fun q => g q.1)).filter (fun x => decide (x ≠ 8))
theorem wdg_nil (g : Nat → Nat) : wdg g [] = [] := rfl
theorem wdg_c (g : Nat → Nat) (q : Nat × Nat) (P : ArL) : wdg g (q :: P) = if g q.1 = 8 then wdg g P else g q.1 :: wdg g P := by
  unfold wdg
  rw [List.map_cons]
  by_cases h : g q.1 = 8
  · rw [if_pos h, List.filter_cons_of_neg (by simpa using h)]
  · rw [if_neg h, List.filter_cons_of_pos (by simpa using h)]
theorem wdg_app (g : Nat → Nat) (P P' : ArL) : wdg g (P ++ P') = wdg g P ++ wdg g P' := by
  unfold wdg
  rw [List.map_append, List.filter_append]
theorem wdg_ne {g : Nat → Nat} {P : ArL} {x : Nat} (h : x ∈ wdg g P) : x ≠ 8 := by
  simpa using (List.mem_filter.mp h).2
theorem wdg_ltr {P P' : ArL} (h : P'.map ltr = P.map ltr) : wdg upr P' = wdg upr P ∧ wdg lwr P' = wdg lwr P := by
  have h1 : P'.map (fun q => upr q.1) = P.map (fun q => upr q.1) := by
    have := congrArg (List.map Prod.fst) h
    rw [List.map_map, List.map_map] at this
    exact this
  have h2 : P'.map (fun q => lwr q.1) = P.map (fun q => lwr q.1) := by
    have := congrArg (List.map Prod.snd) h
    rw [List.map_map, List.map_map] at this
    exact this
  unfold wdg
  rw [h1, h2]
  exact ⟨rfl, rfl⟩
theorem wdg_split {g : Nat → Nat} {x : Nat} : ∀ (P : ArL) (w : List Nat), wdg g P = w ++ [x] → ∃ P1 q P2, P = P1 ++ q :: P2 ∧ wdg g P1 = w ∧ g q.1 = x ∧ wdg g P2 = []
  | [], w, h => by
    have := congrArg List.length h
    rw [wdg_nil, List.length_append] at this
    simp at this
  | q0 :: P, w, h => by
    rw [wdg_c] at h
    by_cases c : g q0.1 = 8
    · rw [if_pos c] at h
      obtain ⟨P1, q, P2, h1, h2, h3, h4⟩ := wdg_split P w h
      exact ⟨q0 :: P1, q, P2, by rw [h1]; rfl, by rw [wdg_c, if_pos c, h2], h3, h4⟩
    · rw [if_neg c] at h
      cases w with
      | nil =>
        have h : g q0.1 :: wdg g P = [x] := h
        exact ⟨[], q0, P, rfl, rfl, (List.cons.inj h).1, (List.cons.inj h).2⟩
      | cons y w =>
        have h : g q0.1 :: wdg g P = y :: (w ++ [x]) := h
        obtain ⟨P1, q, P2, h1, h2, h3, h4⟩ := wdg_split P w (List.cons.inj h).2
        exact ⟨q0 :: P1, q, P2, by rw [h1]; rfl, by rw [wdg_c, if_neg c, h2, (List.cons.inj h).1], h3, h4⟩
theorem eps_pth {L : ArL} {s t : Nat} (h : Rc (eps L) s t) : ∃ P, Pth L s P t ∧ wdg upr P = [] :=
  h (fun t => ∃ P, Pth L s P t ∧ wdg upr P = []) ⟨[], rfl, rfl⟩ (fun x y ⟨P, h1, h2⟩ ⟨q, k1, k2, k3, k4⟩ => by
    refine ⟨P ++ [q], k4 ▸ h1.snoc k1 k3, ?_⟩
    have : upr q.1 = 8 := of_decide_eq_true k2
    rw [wdg_app, h2, wdg_c, if_pos this]
    rfl)
theorem pth_eps {L : ArL} : ∀ {P : ArL} {s t : Nat}, Pth L s P t → wdg upr P = [] → Rc (eps L) s t
  | [], s, t, h, _ => by
    have h : s = t := h
    subst h
    exact Rc.rf
  | q :: P, s, t, h, hw => by
    rw [wdg_c] at hw
    by_cases c : upr q.1 = 8
    · rw [if_pos c] at hw
      exact Rc.hd ⟨q, h.1, decide_eq_true c, h.2.1, rfl⟩ (pth_eps h.2.2 hw)
    · rw [if_neg c] at hw
      cases hw
/-- the set of states behind a word -/
def stW (L : ArL) (w : List Nat) : Int32 := w.foldl (fun v x => mst L x v) (mfi L)
theorem stW_s (L : ArL) (w : List Nat) (x : Nat) : stW L (w ++ [x]) = mst L x (stW L w) := by
  unfold stW
  rw [List.foldl_append]
  rfl
theorem pth_lt {n : Nat} {L : ArL} (hok : DOK n L) : ∀ {P : ArL} {s t : Nat}, s < n → Pth L s P t → t < n
  | [], s, t, hs, h => by
    have h : s = t := h
    omega
  | q :: P, s, t, hs, h => pth_lt hok (hok q h.1).2.2.1 h.2.2
theorem snoc_ind {α : Type} {P : List α → Prop} (h0 : P []) (hs : ∀ w x, P w → P (w ++ [x])) (w : List α) : P w := by
  have h : ∀ v : List α, P v.reverse := by
    intro v
    induction v with
    | nil => exact h0
    | cons x v ih => rw [List.reverse_cons]; exact hs _ x ih
  have := h w.reverse
  rwa [List.reverse_reverse] at this
theorem stW_tb {n : Nat} {L : ArL} (hok : DOK n L) (hn : n ≤ 32) (h1 : 1 ≤ n) (w : List Nat) : (∀ x, x ∈ w → x ≠ 8) → ∀ s, s < 32 → (tb (stW L w) s = true ↔ ∃ P, Pth L 0 P s ∧ wdg upr P = w) := by
  refine snoc_ind (P := fun w => (∀ x, x ∈ w → x ≠ 8) → ∀ s, s < 32 → (tb (stW L w) s = true ↔ ∃ P, Pth L 0 P s ∧ wdg upr P = w)) ?_ ?_ w
  · intro _ s hs
    show tb (mfi L) s = true ↔ _
    rw [mfi_spec hok hn h1 s hs]
    exact ⟨eps_pth, fun ⟨P, h2, h3⟩ => pth_eps h2 h3⟩
  · intro w x ih hw s hs
    have ih := ih (fun y hy => hw y (List.mem_append_left _ hy))
    have hx : x ≠ 8 := hw x (by simp)
    rw [stW_s, mst_spec hok hn s hs]
    constructor
    · rintro ⟨q, k1, k2, k3, k4⟩
      have hf := (hok q k1).2.1
      obtain ⟨P, p1, p2⟩ := (ih (fr q.1) (by omega)).mp k3
      obtain ⟨P2, r1, r2⟩ := eps_pth k4
      refine ⟨P ++ q :: P2, p1.app ⟨k1, rfl, r1⟩, ?_⟩
      rw [wdg_app, p2, wdg_c, if_neg (by rw [k2]; exact hx), r2, k2]
    · rintro ⟨P, p1, p2⟩
      obtain ⟨P1, q, P2, e, r1, r2, r3⟩ := wdg_split P w p2
      subst e
      obtain ⟨t, a1, a2⟩ := Pth.split p1
      obtain ⟨b1, b2, b3⟩ := a2
      have hf := (hok q b1).2.1
      exact ⟨q, b1, r2, (ih (fr q.1) (by omega)).mpr ⟨P1, b2 ▸ a1, r1⟩, pth_eps b3 r3⟩
/-- the words that lead from a state to an end -/
def LangF (st n : Nat) (f : Nat → Bool) (L : ArL) (w : List Nat) : Prop := ∃ P s, Pth L st P s ∧ s < n ∧ f s = true ∧ wdg upr P = w
theorem lang_set {n : Nat} {f : Nat → Bool} {L : ArL} (hok : DOK n L) (hn : n ≤ 32) (h1 : 1 ≤ n) (w : List Nat) (hw : ∀ x, x ∈ w → x ≠ 8) : stW L w &&& eB f n ≠ nI 0 ↔ LangF 0 n f L w := by
  constructor
  · intro h
    refine Classical.byContradiction fun c => h (and_ne.mpr fun s hs hh => c ?_)
    obtain ⟨P, p1, p2⟩ := (stW_tb hok hn h1 w hw s hs).mp hh.1
    have h2 := hh.2
    rw [tb_eB hn s hs, Bool.and_eq_true_iff] at h2
    exact ⟨P, s, p1, of_decide_eq_true h2.1, h2.2, p2⟩
  · rintro ⟨P, s, p1, p2, p3, p4⟩ h
    refine and_ne.mp h s (by omega) ⟨(stW_tb hok hn h1 w hw s (by omega)).mpr ⟨P, p1, p4⟩, ?_⟩
    rw [tb_eB hn s (by omega), p3, decide_eq_true p2]
    rfl
theorem lang_made {n st : Nat} {E : Nat → Bool} {D : ArL} {M : Ma} (h : Made n st E D (some M)) (hok : DOK n D) (hst : st < n) (w : List Nat) : LangF 0 M.1 M.2.1 M.2.2 w ↔ LangF st n E D w := by
  constructor
  · rintro ⟨P, s, h1, h2, h3, h4⟩
    obtain ⟨P', t, k1, k2, k3, k4⟩ := (acc_made h hok hst (P.map ltr)).mp ⟨P, s, h1, h2, h3, rfl⟩
    exact ⟨P', t, k1, k2, k3, (wdg_ltr k4).1.trans h4⟩
  · rintro ⟨P, s, h1, h2, h3, h4⟩
    obtain ⟨P', t, k1, k2, k3, k4⟩ := (acc_made h hok hst (P.map ltr)).mpr ⟨P, s, h1, h2, h3, rfl⟩
    exact ⟨P', t, k1, k2, k3, (wdg_ltr k4).1.trans h4⟩
/-! what is looked at is behind words -/
theorem exL_all {P : PS → Prop} {fA fB : Int32 → Nat → Int32} {kp : Int32 → Int32 → Bool} (hs : ∀ p x, x < 8 → P p → P (fA p.1 x, fB p.2 x)) {s s' : XS} {k x : Nat} (hx : x < 8) (hk : k < s.1.length) (h : exL fA fB kp s k x = some s') (h0 : ∀ p, p ∈ s.1 → P p) : (∀ p, p ∈ s'.1 → P p) ∧ s.1.length ≤ s'.1.length := by
  have hp : P (s.1.getD k (nI 0, nI 0)) := h0 _ (List.mem_of_getElem? (ps_get hk))
  unfold exL at h
  split at h
  · split at h
    · cases h
      exact ⟨h0, Nat.le_refl _⟩
    · split at h
      · cases h
        refine ⟨fun p hp2 => ?_, by show s.1.length ≤ (s.1 ++ _).length; rw [List.length_append]; omega⟩
        have hp2 : p ∈ s.1 ++ [_] := hp2
        rcases List.mem_append.mp hp2 with q | q
        · exact h0 p q
        · rw [List.mem_singleton] at q
          rw [q]
          exact hs _ x hx hp
      · cases h
  · cases h
    exact ⟨h0, Nat.le_refl _⟩
theorem exX_all {P : PS → Prop} {fA fB : Int32 → Nat → Int32} {kp : Int32 → Int32 → Bool} (hs : ∀ p x, x < 8 → P p → P (fA p.1 x, fB p.2 x)) {s : XS} {k : Nat} (hk : k < s.1.length) (h0 : ∀ p, p ∈ s.1 → P p) : ∀ (x : Nat) (s' : XS), x ≤ 8 → exX fA fB kp s k x = some s' → (∀ p, p ∈ s'.1 → P p) ∧ s.1.length ≤ s'.1.length
  | 0, s', _, h => by
    have h : s = s' := Option.some.inj h
    subst h
    exact ⟨h0, Nat.le_refl _⟩
  | x + 1, s', hx, h => by
    have h : (exX fA fB kp s k x).bind (fun s => exL fA fB kp s k x) = some s' := h
    obtain ⟨s1, h1, h2⟩ := Option.bind_eq_some_iff.mp h
    obtain ⟨a1, a2⟩ := exX_all hs hk h0 x s1 (by omega) h1
    obtain ⟨b1, b2⟩ := exL_all hs (by omega) (by omega) h2 a1
    exact ⟨b1, by omega⟩
theorem exR_all {P : PS → Prop} {fA fB : Int32 → Nat → Int32} {kp : Int32 → Int32 → Bool} {a b : Int32} (hab : P (a, b)) (hs : ∀ p x, x < 8 → P p → P (fA p.1 x, fB p.2 x)) : ∀ (k : Nat) (s : XS), exR fA fB kp a b k = some s → ∀ p, p ∈ s.1 → P p
  | 0, s, h => by
    have h : exI a b = s := Option.some.inj h
    subst h
    intro p hp
    have hp : p ∈ [(a, b)] := hp
    rw [List.mem_singleton] at hp
    rw [hp]
    exact hab
  | k + 1, s, h => by
    have h : (exR fA fB kp a b k).bind (fun s => if k < s.1.length then exX fA fB kp s k 8 else some s) = some s := h
    obtain ⟨s1, h1, h2⟩ := Option.bind_eq_some_iff.mp h
    have ih := exR_all hab hs k s1 h1
    by_cases c : k < s1.1.length
    · rw [if_pos c] at h2
      exact (exX_all hs c ih 8 s (Nat.le_refl _) h2).1
    · rw [if_neg c] at h2
      cases h2
      exact ih
/-- two sets that accept the same words -/
def SameW (eA : Int32) (LA : ArL) (eB' : Int32) (LB : ArL) (p : PS) : Prop := ∃ w : List Nat, (∀ x, x ∈ w → x < 8) ∧ p = (stW LA w, stW LB w)
theorem fwA_none {wa : Nat → Bool} : ∀ d k, (∀ i, i < k + d → wa i = false) → fwA wa d k = none
  | 0, _, _ => rfl
  | d + 1, k, h => by
    rw [fwA, if_neg (by rw [h k (by omega)]; decide)]
    exact fwA_none d (k + 1) (fun i hi => h i (by omega))
