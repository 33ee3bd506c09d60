
/-! what the pairs of sets accept -/
def acD (d : Nat → Nat → Option Nat) (wa : Nat → Bool) : Nat → List Nat → Bool
  | i, [] => wa i
  | i, x :: w => match d i x with | none => false | some j => acD d wa j w
theorem acD_n {d : Nat → Nat → Option Nat} {wa : Nat → Bool} {i x : Nat} {w : List Nat} (h : d i x = none) : acD d wa i (x :: w) = false := by
  rw [acD, h]
theorem acD_c {d : Nat → Nat → Option Nat} {wa : Nat → Bool} {i x j : Nat} {w : List Nat} (h : d i x = some j) : acD d wa i (x :: w) = acD d wa j w := by
  rw [acD, h]
theorem exR_head {fA fB : Int32 → Nat → Int32} {kp : Int32 → Int32 → Bool} {a b : Int32} : ∀ (k : Nat) (s : XS), exR fA fB kp a b k = some s → s.1[0]? = some (a, b)
  | 0, s, h => by
    have h : exI a b = s := Option.some.inj h
    subst h
    rfl
  | k + 1, s, h => by
    have h : (exR fA fB kp a b k).bind (fun s => if k < s.1.length then exX fA fB kp s k 8 else some s) = some s := h
    obtain ⟨s1, h1, h2⟩ := Option.bind_eq_some_iff.mp h
    have ih := exR_head k s1 h1
    have keepL : ∀ (x : Nat) (t t' : XS), exL fA fB kp t k x = some t' → t.1[0]? = some (a, b) → t'.1[0]? = some (a, b) := by
      intro x t t' ht h0
      unfold exL at ht
      split at ht
      · split at ht
        · cases ht; exact h0
        · split at ht
          · cases ht
            show (t.1 ++ [_])[0]? = _
            rw [List.getElem?_append_left (List.getElem?_eq_some_iff.mp h0).1]
            exact h0
          · cases ht
      · cases ht; exact h0
    have keepX : ∀ (x : Nat) (t' : XS), exX fA fB kp s1 k x = some t' → t'.1[0]? = some (a, b) := by
      intro x
      induction x with
      | zero => intro t' ht; cases ht; exact ih
      | succ x ihx =>
        intro t' ht
        have ht : (exX fA fB kp s1 k x).bind (fun s => exL fA fB kp s k x) = some t' := ht
        obtain ⟨s2, k1, k2⟩ := Option.bind_eq_some_iff.mp ht
        exact keepL x s2 t' k2 (ihx s2 k1)
    by_cases c : k < s1.1.length
    · rw [if_pos c] at h2; exact keepX 8 s h2
    · rw [if_neg c] at h2; cases h2; exact ih
theorem mst_0 {L : ArL} {n x : Nat} (hok : DOK n L) (hn : n ≤ 32) : mst L x (nI 0) = nI 0 := by
  refine tb_ext (fun s hs => ?_)
  rw [tb_0, Bool.eq_false_iff]
  intro h
  obtain ⟨q, -, -, k3, -⟩ := (mst_spec hok hn s hs).mp h
  rw [tb_0] at k3
  cases k3
theorem fold_0 {L : ArL} {n : Nat} (hok : DOK n L) (hn : n ≤ 32) : ∀ w : List Nat, w.foldl (fun v x => mst L x v) (nI 0) = nI 0
  | [] => rfl
  | x :: w => by rw [List.foldl_cons, mst_0 hok hn]; exact fold_0 hok hn w
section LEAST
variable {n : Nat} {f : Nat → Bool} {L LB : ArL} {s : XS} {d : Nat → Nat → Option Nat} {wa u : Nat → Bool}
abbrev Sk (s : XS) (k : Nat) : Int32 := (s.1.getD k (nI 0, nI 0)).1
theorem an_none {o : Option Nat} (h : ∀ a, o = some a → a < 2 ^ 30) (e : an o = nM) : o = none :=
  an_inj h (fun a ha => (by cases ha)) (e.trans (show nM = an none from rfl))
theorem ex_tr (hex : exF 0 L LB = some s) (hd : DOf s d) {k x : Nat} (hk : k < s.1.length) (hx : x < 8) : (d k x = none ∧ mst L x (Sk s k) = nI 0) ∨ ∃ j, j < s.1.length ∧ d k x = some j ∧ Sk s j = mst L x (Sk s k) := by
  have ht := exR_trnF (show exR (fun v x => mst L x v) (fB2 0 LB) (kpW (wnW 0)) (mfi L) (nI 0) 200 = some s from hex)
  have hl := (exR_fin (show exR _ _ _ _ _ 200 = some s from hex)).2.1
  obtain ⟨h1, h2⟩ := hd k x hk hx
  have hb : ∀ a, d k x = some a → a < 2 ^ 30 := fun a ha => by have := h2 a ha; omega
  obtain ⟨-, h3⟩ := ht k x hx (by omega)
  rcases h3 with ⟨h3, h4⟩ | ⟨j, h3, h4, h5⟩
  · refine Or.inl ⟨an_none hb (h1.symm.trans h3), ?_⟩
    have h4 : decide (mst L x (Sk s k) ≠ nI 0) = false := h4
    exact Classical.byContradiction fun c => of_decide_eq_false h4 c
  · refine Or.inr ⟨j, h3, ?_, ?_⟩
    · exact an_inj hb (fun a ha => by cases ha; omega) (h1.symm.trans (h4.trans (an_s j).symm))
    · show (s.1.getD j (nI 0, nI 0)).1 = _
      rw [List.getD_eq_getElem?_getD, h5]
      rfl
theorem waf_0 {eA : Int32} (hwa : wa = waf (wnW 0) eA (nI 0) s.1) (k : Nat) : wa k = decide (Sk s k &&& eA ≠ nI 0) := by
  rw [hwa]
  unfold waf wt
  rw [show wnW 0 = 0 from rfl, if_neg (by omega), if_neg (by omega), and_0, show decide (nI 0 ≠ nI 0) = false from decide_eq_false (fun h => h rfl)]
  exact Bool.and_true _
theorem acD_set (hok : DOK n L) (hn : n ≤ 32) (hex : exF 0 L LB = some s) (hd : DOf s d) {eA : Int32} (hwa : wa = waf (wnW 0) eA (nI 0) s.1) : ∀ (w : List Nat) (k : Nat), (∀ x, x ∈ w → x < 8) → k < s.1.length → (acD d wa k w = true ↔ (w.foldl (fun v x => mst L x v) (Sk s k)) &&& eA ≠ nI 0)
  | [], k, _, hk => by
    show wa k = true ↔ _
    rw [waf_0 hwa k, decide_eq_true_iff]
    exact Iff.rfl
  | x :: w, k, hw, hk => by
    have hx := hw x List.mem_cons_self
    have hw' : ∀ y, y ∈ w → y < 8 := fun y hy => hw y (List.mem_cons_of_mem _ hy)
    rw [List.foldl_cons]
    rcases ex_tr hex hd hk hx with ⟨h1, h2⟩ | ⟨j, h1, h2, h3⟩
    · rw [acD_n h1, h2, fold_0 hok hn]
      constructor
      · intro h; cases h
      · intro h
        refine absurd ?_ h
        rw [and_ne]
        intro t _ ht
        rw [tb_0] at ht
        exact absurd ht.1 (by decide)
    · rw [acD_c h2, ← h3]
      exact acD_set hok hn hex hd hwa w j hw' h1
theorem acD_lang (hok : DOK n L) (hn : n ≤ 32) (h1 : 1 ≤ n) (hex : exF 0 L LB = some s) (hd : DOf s d) (hwa : wa = waf (wnW 0) (eB f n) (nI 0) s.1) (w : List Nat) (hw : ∀ x, x ∈ w → x < 8) : acD d wa 0 w = true ↔ LangF 0 n f L w := by
  have h0 := exR_head 200 s (show exR (fun v x => mst L x v) (fB2 0 LB) (kpW (wnW 0)) (mfi L) (nI 0) 200 = some s from hex)
  have hk : 0 < s.1.length := (List.getElem?_eq_some_iff.mp h0).1
  rw [acD_set hok hn hex hd hwa w 0 hw hk, ← lang_set hok hn h1 w (fun x hx => by have := hw x hx; omega)]
  have : Sk s 0 = mfi L := by
    show (s.1.getD 0 (nI 0, nI 0)).1 = _
    rw [List.getD_eq_getElem?_getD, h0]
    rfl
  rw [this]
  exact Iff.rfl
end LEAST
/-! useful pairs, and pairs of one group -/
section GROUPS
variable {d : Nat → Nat → Option Nat} {wa u : Nat → Bool} {c t : Nat}
theorem ac_u (hu : UOf d wa c u) (hdc : ∀ k x y, k < c → x < 8 → d k x = some y → y < c) : ∀ (w : List Nat) (k : Nat), (∀ x, x ∈ w → x < 8) → k < c → acD d wa k w = true → u k = true
  | [], k, _, hk, h => uof_wa hu hk h
  | x :: w, k, hw, hk, h => by
    have hx := hw x List.mem_cons_self
    cases e : d k x with
    | none => rw [acD_n e] at h; cases h
    | some j =>
      rw [acD_c e] at h
      exact uof_st hu ⟨hk, x, hx, e⟩ (ac_u hu hdc w j (fun y hy => hw y (List.mem_cons_of_mem _ hy)) (hdc k x j hk hx e) h)
theorem u_ac (hu : UOf d wa c u) {k : Nat} (h : u k = true) : ∃ w, (∀ x, x ∈ w → x < 8) ∧ acD d wa k w = true := by
  obtain ⟨hk, j, hj, h1, h2⟩ := (hu k).mp h
  have := h2 (fun y => ∀ w, (∀ x, x ∈ w → x < 8) → acD d wa y w = true → ∃ w', (∀ x, x ∈ w' → x < 8) ∧ acD d wa k w' = true) (fun w a b => ⟨w, a, b⟩) (fun y z hy ⟨_, x, hx, hd⟩ w a b => hy (x :: w) (fun v hv => by
    rcases List.mem_cons.mp hv with e | e
    · rw [e]; exact hx
    · exact a v e) (by rw [acD_c hd]; exact b))
  exact this [] (fun x hx => (by cases hx)) h1
/-- two of one group, at last -/
def Eqv (d : Nat → Nat → Option Nat) (wa u : Nat → Bool) (c t i j : Nat) : Prop := i < c ∧ j < c ∧ u i = true ∧ u j = true ∧ Gs d wa u (t + 2) i = Gs d wa u (t + 2) j
theorem eqv_st (hu : UOf d wa c u) (hdc : ∀ k x y, k < c → x < 8 → d k x = some y → y < c) (hst : Fc d wa u c (t + 2) = Fc d wa u c (t + 1)) {i j : Nat} (h : Eqv d wa u c t i j) : wa i = wa j ∧ ∀ x, x < 8 → (dpr d u i x = none ∧ dpr d u j x = none) ∨ ∃ k k', dpr d u i x = some k ∧ dpr d u j x = some k' ∧ Eqv d wa u c t k k' := by
  obtain ⟨hi, hj, ui, uj, e⟩ := h
  obtain ⟨r1, r2, r3⟩ := rel_all hu hdc (t + 2)
  have es := (r1 i j hi hj ui uj).mp e
  have hm : Mc (dpr d u) wa c (t + 2) = Mc (dpr d u) wa c (t + 1) := by rw [mc_fc hu hdc (t + 1), mc_fc hu hdc t, hst]
  have hdc' : ∀ k x y, k < c → x < 8 → dpr d u k x = some y → y < c := fun k x y hk hx h => hdc k x y hk hx (dpr_some.mp h).1
  have hs := mc_stable hdc' hm hi hj es
  refine ⟨r2 i j hi hj es, fun x hx => ?_⟩
  have hsx := hs x hx
  unfold sb at hsx
  cases e1 : dpr d u i x with
  | none =>
    cases e2 : dpr d u j x with
    | none => exact Or.inl ⟨rfl, rfl⟩
    | some k' => rw [e1, e2] at hsx; cases hsx
  | some k =>
    cases e2 : dpr d u j x with
    | none => rw [e1, e2] at hsx; cases hsx
    | some k' =>
      rw [e1, e2] at hsx
      have hsx : Ss (dpr d u) wa (t + 2) k = Ss (dpr d u) wa (t + 2) k' := Option.some.inj hsx
      have a1 := dpr_some.mp e1
      have a2 := dpr_some.mp e2
      have b1 := hdc i x k hi hx a1.1
      have b2 := hdc j x k' hj hx a2.1
      exact Or.inr ⟨k, k', rfl, rfl, b1, b2, a1.2, a2.2, (r1 k k' b1 b2 a1.2 a2.2).mpr hsx⟩
theorem dpr_ac (hu : UOf d wa c u) (hdc : ∀ k x y, k < c → x < 8 → d k x = some y → y < c) {i x : Nat} {w : List Nat} (hi : i < c) (hx : x < 8) (hw : ∀ y, y ∈ w → y < 8) (h : dpr d u i x = none) : acD d wa i (x :: w) = false := by
  cases e : d i x with
  | none => exact acD_n e
  | some k =>
    rw [acD_c e, Bool.eq_false_iff]
    intro hk
    have hkc := hdc i x k hi hx e
    have := ac_u hu hdc w k hw hkc hk
    rw [dpr_some.mpr ⟨e, this⟩] at h
    cases h
theorem eqv_ac (hu : UOf d wa c u) (hdc : ∀ k x y, k < c → x < 8 → d k x = some y → y < c) (hst : Fc d wa u c (t + 2) = Fc d wa u c (t + 1)) : ∀ (w : List Nat) (i j : Nat), (∀ x, x ∈ w → x < 8) → Eqv d wa u c t i j → acD d wa i w = acD d wa j w
  | [], i, j, _, h => (eqv_st hu hdc hst h).1
  | x :: w, i, j, hw, h => by
    have hx := hw x List.mem_cons_self
    have hw' : ∀ y, y ∈ w → y < 8 := fun y hy => hw y (List.mem_cons_of_mem _ hy)
    rcases (eqv_st hu hdc hst h).2 x hx with ⟨h1, h2⟩ | ⟨k, k', h1, h2, h3⟩
    · rw [dpr_ac hu hdc h.1 hx hw' h1, dpr_ac hu hdc h.2.1 hx hw' h2]
    · rw [acD_c (dpr_some.mp h1).1, acD_c (dpr_some.mp h2).1]
      exact eqv_ac hu hdc hst w k k' hw' h3
/-- two of different groups are told apart by a word -/
theorem ac_dist (hu : UOf d wa c u) (hdc : ∀ k x y, k < c → x < 8 → d k x = some y → y < c) : ∀ (t i j : Nat), i < c → j < c → u i = true → u j = true → Gs d wa u t i ≠ Gs d wa u t j → ∃ w, (∀ x, x ∈ w → x < 8) ∧ acD d wa i w ≠ acD d wa j w
  | 0, i, j, hi, hj, ui, uj, h => by
    refine ⟨[], fun x hx => (by cases hx), fun e => h ?_⟩
    have e : wa i = wa j := e
    show (if u i = true then some (if wa i = true then 1 else 0) else none) = (if u j = true then some (if wa j = true then 1 else 0) else none)
    rw [if_pos ui, if_pos uj, e]
  | t + 1, i, j, hi, hj, ui, uj, h => by
    by_cases hg : Gs d wa u t i = Gs d wa u t j
    · have : ¬ ∀ x, x < 8 → gb d (Gs d wa u t) i x = gb d (Gs d wa u t) j x := fun hall => h (by
        have e := sgC_eq.mpr ⟨hg, hall⟩
        show (if u i = true then some (nmF (sgC d (Gs d wa u t)) u i) else none) = (if u j = true then some (nmF (sgC d (Gs d wa u t)) u j) else none)
        rw [if_pos ui, if_pos uj, (nm_eq ui uj).mpr e])
      have ⟨x, hx, hne⟩ : ∃ x, x < 8 ∧ gb d (Gs d wa u t) i x ≠ gb d (Gs d wa u t) j x := by
        refine Classical.byContradiction fun c => this (fun x hx => Classical.byContradiction fun e => c ⟨x, hx, e⟩)
      have live : ∀ i, i < c → ∀ g, gb d (Gs d wa u t) i x = some g → ∃ k, k < c ∧ d i x = some k ∧ u k = true ∧ Gs d wa u t k = some g := by
        intro i hi g hgb
        unfold gb at hgb
        cases e : d i x with
        | none => rw [e] at hgb; cases hgb
        | some k =>
          rw [e] at hgb
          have hgb : Gs d wa u t k = some g := hgb
          exact ⟨k, hdc i x k hi hx e, rfl, Gs_some hgb, hgb⟩
      have dead : ∀ i, i < c → gb d (Gs d wa u t) i x = none → ∀ w, (∀ y, y ∈ w → y < 8) → acD d wa i (x :: w) = false := by
        intro i hi hgb w hw
        refine dpr_ac hu hdc hi hx hw ?_
        cases e : dpr d u i x with
        | none => rfl
        | some k =>
          have a := dpr_some.mp e
          obtain ⟨g, hg⟩ := Gs_live (d := d) (wa := wa) (t := t) a.2
          unfold gb at hgb
          rw [a.1] at hgb
          have hgb : Gs d wa u t k = none := hgb
          rw [hg] at hgb
          cases hgb
      have cons8 : ∀ w : List Nat, (∀ y, y ∈ w → y < 8) → ∀ y, y ∈ x :: w → y < 8 := fun w hw y hy => by
        rcases List.mem_cons.mp hy with e | e
        · rw [e]; exact hx
        · exact hw y e
      cases e1 : gb d (Gs d wa u t) i x with
      | none =>
        cases e2 : gb d (Gs d wa u t) j x with
        | none => exact absurd (e1.trans e2.symm) hne
        | some g =>
          obtain ⟨k, k1, k2, k3, k4⟩ := live j hj g e2
          obtain ⟨w, hw, ha⟩ := u_ac hu k3
          refine ⟨x :: w, cons8 w hw, ?_⟩
          rw [dead i hi e1 w hw, acD_c k2, ha]
          decide
      | some g =>
        obtain ⟨k, k1, k2, k3, k4⟩ := live i hi g e1
        cases e2 : gb d (Gs d wa u t) j x with
        | none =>
          obtain ⟨w, hw, ha⟩ := u_ac hu k3
          refine ⟨x :: w, cons8 w hw, ?_⟩
          rw [dead j hj e2 w hw, acD_c k2, ha]
          decide
        | some g' =>
          obtain ⟨k', l1, l2, l3, l4⟩ := live j hj g' e2
          obtain ⟨w, hw, ha⟩ := ac_dist hu hdc t k k' k1 l1 k3 l3 (fun e => hne (by rw [e1, e2, ← k4, ← l4, e]))
          refine ⟨x :: w, cons8 w hw, ?_⟩
          rw [acD_c k2, acD_c l2]
          exact ha
    · exact ac_dist hu hdc t i j hi hj ui uj hg
end GROUPS
