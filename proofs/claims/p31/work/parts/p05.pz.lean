
/-! apart, where both accept the same words -/
theorem as_apart {N i j nA nB : Nat} {fA fB : Nat → Bool} {LA LB : ArL} {Ms : List Ma} {w : List Nat} {ls : Ls} (hN : 40000 < N) (hV : InV Ms w ls) (gA : Ms[i]? = some (nA, fA, LA)) (gB : Ms[j]? = some (nB, fB, LB)) (pA : LA.all plQ = true) (pB : LB.all plQ = true)
    (hL : ∀ w, (∀ x, x ∈ w → x < 8) → (LangF 0 nA fA LA w ↔ LangF 0 nB fB LB w)) :
    ∃ r : Int32 ⊕ Nat, (r = .inr 1 ∨ r = .inl nM) ∧ (exF 3 LA LB ≠ none → r = .inl nM) ∧ ∀ m, InC m Ms w ls → CR (F_X7_apart N m (nI i) (nI j) (nI 0)) m r Ms w ls := by
  have v1 := hV.1
  have hi := (List.getElem?_eq_some_iff.mp gA).1
  have hj := (List.getElem?_eq_some_iff.mp gB).1
  have vA := hV.2.1 _ (List.mem_of_getElem? gA)
  have vB := hV.2.1 _ (List.mem_of_getElem? gB)
  obtain ⟨a1, a2, a3, a4, a5, a6, a7⟩ := vA
  obtain ⟨b1, b2, b3, b4, b5, b6, b7⟩ := vB
  have cEx : ∀ m, InC m Ms w ls → F_X7_apart N m (nI i) (nI j) (nI 0) = cal (F_X5_exploreTwo N m (200 + 4 * i) (200 + 4 * j) (nI 2)) (fun r25 m24 => calx (F_X7_needSets N m24 r25) fun r28 m27 => cal (F_X5_firstWantedLetter N m27 (nI 0)) fun r32 m31 => some (.inl r32, m31)) := by
    intro m hC
    unfold F_X7_apart
    rw [calx_t (need_ok hC v1 hi), calx_t (need_ok hC v1 hj), calx_t (plc_ok (by omega)), calx_t (np_ok (by omega) hN (hC.2.1 i _ gA) a5 a3 pA), calx_t (np_ok (by omega) hN (hC.2.1 j _ gB) b5 b3 pB)]
    simp (disch := omega) only [zi_t, zi_f, bnd_t, zg_in, zx, nI_ltI, nI_leI, nI_eq, nI_add, pk_mul, pk_sub, mup_s, mup_c, mup_j, mrw_c, if_pos, if_neg, zm_1, zm_2, zm_3, zm_4, zm_5, zm_6, zm_7, zm_8, zm_9, zf_0, zf_1, zf_2, zf_3, zf_4, zf_5, zf_6, zf_7, zf_8, zf_9, zf_10, zf_14, zf_15, zf_16, zf_18, zf_19, zf_20, zf_24, zf_30, zf_31, zf_32, zf_33, zf_99, zf_100, zf_160, zf_200, zf_287, zf_288, zf_300, zf_1000, zf_1023, zf_1024, zf_1600, zf_3840, zf_25600, zf_36000, zf_1000000, zf_1000000000, zf_2000000000, zf_11560, za_1, za_2, za_4, za_5, za_6, za_7, za_8, za_9, za_10, za_11, za_12, za_14, za_15, za_22, za_23, za_25, za_26, za_27, za_28, za_29, za_30, za_31, za_32, za_33, za_34, za_35, za_41, za_42, za_43, za_44, za_45, za_46, za_47, za_48, za_49, za_61, za_62, za_63, za_64, za_65, za_70]
  cases hex : exF 3 LA LB with
  | none =>
    refine ⟨.inr 1, Or.inl rfl, fun h => absurd rfl h, fun m hC => ?_⟩
    obtain ⟨m', g1, g2⟩ := cl_exTwo (what := 3) hN (by omega) (by omega) (hC.2.1 i _ gA) a5 a1 a2 a3 a6 (hC.2.1 j _ gB) b5 b1 b2 b3 b6 (by omega) (by omega)
    rcases g2 with ⟨_, g2⟩ | ⟨s, g2, _⟩
    · refine ⟨m', ?_, hC.fS g1, fun k k1 k2 => g1.1 k (by omega)⟩
      have g2 : F_X5_exploreTwo N m (200 + 4 * i) (200 + 4 * j) (nI 2) = some (nI 0, m') := g2
      rw [cEx m hC, cal_t g2, calx_e ns_no]
    · rw [show exF 3 ((nA, fA, LA) : Ma).2.2 ((nB, fB, LB) : Ma).2.2 = none from hex] at g2; cases g2
  | some s =>
    have hX := exR_fin (show exR _ _ _ _ _ 200 = some s from hex)
    obtain ⟨pr, by', q1, q2⟩ := xok_pr hX
    have hall : ∀ p, p ∈ s.1 → SameW (eB fA nA) LA (eB fB nB) LB p := by
      refine exR_all (P := SameW (eB fA nA) LA (eB fB nB) LB) ⟨[], fun x hx => (by cases hx), rfl⟩ ?_ 200 s hex
      rintro p x hx ⟨v, h1, rfl⟩
      refine ⟨v ++ [x], fun y hy => ?_, ?_⟩
      · rcases List.mem_append.mp hy with q | q
        · exact h1 y q
        · rw [List.mem_singleton] at q; omega
      · rw [stW_s, stW_s]
        rfl
    have hno : fwA (waf 2 (eB fA nA) (eB fB nB) s.1) s.1.length 0 = none := by
      refine fwA_none _ _ (fun k hk => ?_)
      obtain ⟨v, h1, h2⟩ := hall _ (List.mem_of_getElem? (ps_get (show k < s.1.length by omega)))
      have h8 : ∀ x, x ∈ v → x ≠ 8 := fun x hx => by have := h1 x hx; omega
      have e1 := lang_set (f := fA) a5 a2 a1 v h8
      have e2 := lang_set (f := fB) b5 b2 b1 v h8
      unfold waf
      rw [h2]
      show wt 2 (decide (stW LA v &&& eB fA nA ≠ nI 0)) (decide (stW LB v &&& eB fB nB ≠ nI 0)) = false
      rw [show decide (stW LA v &&& eB fA nA ≠ nI 0) = decide (stW LB v &&& eB fB nB ≠ nI 0) from decide_eq_decide.mpr (e1.trans ((hL v h1).trans e2.symm))]
      unfold wt
      rw [if_neg (by omega), if_pos rfl]
      simp
    have hap : apA (waf 2 (eB fA nA) (eB fB nB) s.1) pr by' s.1.length 0 = nM := by
      unfold apA
      rw [hno]
    refine ⟨.inl nM, Or.inr rfl, fun _ => rfl, fun m hC => ?_⟩
    obtain ⟨m', g1, g2⟩ := cl_exTwo (what := 3) hN (by omega) (by omega) (hC.2.1 i _ gA) a5 a1 a2 a3 a6 (hC.2.1 j _ gB) b5 b1 b2 b3 b6 (by omega) (by omega)
    rcases g2 with ⟨g2, _⟩ | ⟨s', g2, g3, g4, g5, g6⟩
    · rw [show exF 3 ((nA, fA, LA) : Ma).2.2 ((nB, fB, LB) : Ma).2.2 = some s from hex] at g2; cases g2
    · have hs : s = s' := Option.some.inj ((show exF 3 ((nA, fA, LA) : Ma).2.2 ((nB, fB, LB) : Ma).2.2 = some s from hex).symm.trans g2)
      subst hs
      refine ⟨m', ?_, hC.fS g1, fun k k1 k2 => g1.1 k (by omega)⟩
      have g3 : F_X5_exploreTwo N m (200 + 4 * i) (200 + 4 * j) (nI 2) = some (nI 1, m') := g3
      have g6 : CW m' 2 (eB fA nA) (eB fB nB) := g6
      rw [cEx m hC, cal_t g3, calx_t ns_ok, cal_t (cl_firstW hN g4 g5 g6 (by omega) hX.2.2.1 q1 q2 (by omega)), hap]
/-! which transitions the looking writes -/
def Trn (fA fB : Int32 → Nat → Int32) (kp : Int32 → Int32 → Bool) (s : XS) (J : Nat) : Prop := ∀ k x, x < 8 → 8 * k + x < J → k < s.1.length ∧
  ((s.2.1 (8 * k + x) = nM ∧ kp (fA (s.1.getD k (nI 0, nI 0)).1 x) (fB (s.1.getD k (nI 0, nI 0)).2 x) = false) ∨ ∃ j, j < s.1.length ∧ s.2.1 (8 * k + x) = nI j ∧ s.1[j]? = some (fA (s.1.getD k (nI 0, nI 0)).1 x, fB (s.1.getD k (nI 0, nI 0)).2 x))
theorem getD_app {P : List PS} {p q : PS} {k : Nat} (h : k < P.length) : (P ++ [p]).getD k q = P.getD k q := by
  rw [List.getD_eq_getElem?_getD, List.getD_eq_getElem?_getD, List.getElem?_append_left h]
theorem exL_trn {fA fB : Int32 → Nat → Int32} {kp : Int32 → Int32 → Bool} {s s' : XS} {k x : Nat} (h : exL fA fB kp s k x = some s') (h0 : Trn fA fB kp s (8 * k + x)) (hk : k < s.1.length) (hx : x < 8) : Trn fA fB kp s' (8 * k + x + 1) := by
  unfold exL at h
  split at h
  · rename_i hkp
    split at h
    · rename_i hlt
      cases h
      intro k' x' hx' hJ
      by_cases e : 8 * k' + x' = 8 * k + x
      · have ek : k' = k := by omega
        have ex : x' = x := by omega
        subst ek
        subst ex
        refine ⟨hk, Or.inr ⟨_, hlt, fup_eq, ixp_hit hlt⟩⟩
      · obtain ⟨a1, a2⟩ := h0 k' x' hx' (by omega)
        refine ⟨a1, ?_⟩
        show (fup s.2.1 (8 * k + x) _ (8 * k' + x') = nM ∧ _) ∨ ∃ j, j < s.1.length ∧ fup s.2.1 (8 * k + x) _ (8 * k' + x') = nI j ∧ _
        rw [fup_ne e]
        exact a2
    · rename_i hlt
      split at h
      · cases h
        intro k' x' hx' hJ
        show k' < (s.1 ++ [(fA (s.1.getD k (nI 0, nI 0)).1 x, fB (s.1.getD k (nI 0, nI 0)).2 x)]).length ∧ ((fup s.2.1 (8 * k + x) (nI s.1.length) (8 * k' + x') = nM ∧ kp (fA ((s.1 ++ [(fA (s.1.getD k (nI 0, nI 0)).1 x, fB (s.1.getD k (nI 0, nI 0)).2 x)]).getD k' (nI 0, nI 0)).1 x') (fB ((s.1 ++ [(fA (s.1.getD k (nI 0, nI 0)).1 x, fB (s.1.getD k (nI 0, nI 0)).2 x)]).getD k' (nI 0, nI 0)).2 x') = false) ∨ ∃ j, j < (s.1 ++ [(fA (s.1.getD k (nI 0, nI 0)).1 x, fB (s.1.getD k (nI 0, nI 0)).2 x)]).length ∧ fup s.2.1 (8 * k + x) (nI s.1.length) (8 * k' + x') = nI j ∧ (s.1 ++ [(fA (s.1.getD k (nI 0, nI 0)).1 x, fB (s.1.getD k (nI 0, nI 0)).2 x)])[j]? = some (fA ((s.1 ++ [(fA (s.1.getD k (nI 0, nI 0)).1 x, fB (s.1.getD k (nI 0, nI 0)).2 x)]).getD k' (nI 0, nI 0)).1 x', fB ((s.1 ++ [(fA (s.1.getD k (nI 0, nI 0)).1 x, fB (s.1.getD k (nI 0, nI 0)).2 x)]).getD k' (nI 0, nI 0)).2 x'))
        by_cases e : 8 * k' + x' = 8 * k + x
        · have ek : k' = k := by omega
          have ex : x' = x := by omega
          subst ek
          subst ex
          refine ⟨by rw [List.length_append]; omega, Or.inr ⟨s.1.length, by rw [List.length_append]; show s.1.length < s.1.length + 1; omega, fup_eq, ?_⟩⟩
          rw [getD_app hk, List.getElem?_append_right (Nat.le_refl _), Nat.sub_self]
          rfl
        · obtain ⟨a1, a2⟩ := h0 k' x' hx' (by omega)
          rw [fup_ne e, getD_app a1]
          refine ⟨by rw [List.length_append]; omega, ?_⟩
          rcases a2 with a2 | ⟨j, b1, b2, b3⟩
          · exact Or.inl a2
          · exact Or.inr ⟨j, by rw [List.length_append]; omega, b2, by rw [List.getElem?_append_left b1]; exact b3⟩
      · cases h
  · rename_i hkp
    cases h
    intro k' x' hx' hJ
    by_cases e : 8 * k' + x' = 8 * k + x
    · have ek : k' = k := by omega
      have ex : x' = x := by omega
      subst ek
      subst ex
      exact ⟨hk, Or.inl ⟨fup_eq, Bool.eq_false_iff.mpr hkp⟩⟩
    · obtain ⟨a1, a2⟩ := h0 k' x' hx' (by omega)
      refine ⟨a1, ?_⟩
      show (fup s.2.1 (8 * k + x) _ (8 * k' + x') = nM ∧ _) ∨ ∃ j, j < s.1.length ∧ fup s.2.1 (8 * k + x) _ (8 * k' + x') = nI j ∧ _
      rw [fup_ne e]
      exact a2
theorem exL_len2 {fA fB : Int32 → Nat → Int32} {kp : Int32 → Int32 → Bool} {s s' : XS} {k x : Nat} (h : exL fA fB kp s k x = some s') : s.1.length ≤ s'.1.length := by
  unfold exL at h
  split at h
  · split at h
    · cases h; exact Nat.le_refl _
    · split at h
      · cases h
        show s.1.length ≤ (s.1 ++ [_]).length
        rw [List.length_append]; omega
      · cases h
  · cases h; exact Nat.le_refl _
theorem exX_trn {fA fB : Int32 → Nat → Int32} {kp : Int32 → Int32 → Bool} {s : XS} {k : Nat} (h0 : Trn fA fB kp s (8 * k)) (hk : k < s.1.length) : ∀ (x : Nat) (s' : XS), x ≤ 8 → exX fA fB kp s k x = some s' → Trn fA fB kp s' (8 * k + x) ∧ s.1.length ≤ s'.1.length
  | 0, s', _, h => by
    have h : s = s' := Option.some.inj h
    subst h
    exact ⟨h0, Nat.le_refl _⟩
  | x + 1, s', hx, h => by
    have h : (exX fA fB kp s k x).bind (fun s => exL fA fB kp s k x) = some s' := h
    obtain ⟨s1, h1, h2⟩ := Option.bind_eq_some_iff.mp h
    obtain ⟨a1, a2⟩ := exX_trn h0 hk x s1 (by omega) h1
    have := exL_len2 h2
    exact ⟨exL_trn h2 a1 (by omega) (by omega), by omega⟩
theorem exR_trn {fA fB : Int32 → Nat → Int32} {kp : Int32 → Int32 → Bool} {a b : Int32} : ∀ (k : Nat) (s : XS), exR fA fB kp a b k = some s → Trn fA fB kp s (8 * min k s.1.length)
  | 0, s, h => fun k' x' hx' hJ => by rw [Nat.zero_min] at hJ; omega
  | k + 1, s, h => by
    have h : (exR fA fB kp a b k).bind (fun s => if k < s.1.length then exX fA fB kp s k 8 else some s) = some s := h
    obtain ⟨s1, h1, h2⟩ := Option.bind_eq_some_iff.mp h
    have ih := exR_trn k s1 h1
    by_cases c : k < s1.1.length
    · rw [if_pos c] at h2
      rw [Nat.min_eq_left (by omega)] at ih
      obtain ⟨a1, a2⟩ := exX_trn ih c 8 s (Nat.le_refl _) h2
      rw [Nat.min_eq_left (by omega)]
      intro k' x' hx' hJ
      exact a1 k' x' hx' (by omega)
    · rw [if_neg c] at h2
      cases h2
      intro k' x' hx' hJ
      exact ih k' x' hx' (by omega)
theorem exR_trnF {fA fB : Int32 → Nat → Int32} {kp : Int32 → Int32 → Bool} {a b : Int32} {s : XS} (h : exR fA fB kp a b 200 = some s) : Trn fA fB kp s (8 * s.1.length) := by
  have h1 := exR_trn 200 s h
  rw [Nat.min_eq_right (exR_fin h).2.1] at h1
  exact h1
