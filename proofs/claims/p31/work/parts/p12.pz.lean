
/-! least and meet -/
theorem NF.pl {M : Ma} (h : NF M) : M.2.2.all plQ = true := by
  rw [List.all_eq_true]
  intro q hq
  obtain ⟨s, x, t, rfl, a1, a2, a3⟩ := h.2.2.2.1 q hq
  have v2 : M.1 ≤ 32 := h.1.2.1
  obtain ⟨e1, e2, e3, e4⟩ := dr_fld (s := s) (c := 0) (show x < 16 by omega) (show x < 16 by omega) (show t < 1024 by omega)
  unfold plQ
  rw [e2, e3, decide_eq_true rfl, decide_eq_true rfl]
  rfl
theorem mk_least {N i : Nat} (hN : 40000 < N) (Ms : List Ma) (w : List Nat) (ls : Ls) (hV : InV Ms w ls) (hi : i < Ms.length) :
    ∃ oM : Option Ma, (∀ M, oM = some M → Ms.length < 24 ∧ VM M ∧ MdM M ∧ NF M ∧ ∃ n f L, Ms[i]? = some (n, f, L) ∧ L.all plQ = true ∧ ∀ w, (∀ x, x ∈ w → x < 8) → (LangF 0 M.1 M.2.1 M.2.2 w ↔ LangF 0 n f L w)) ∧
      (∀ M, Ms[i]? = some M → NF M → oM = some M ∨ (oM = none ∧ Ms.length = 24)) ∧ ∀ m, InC m Ms w ls → CR (F_X7_least N m (nI i)) m (rsC Ms.length oM) (Ms ++ oM.toList) w ls := by
  have v1 := hV.1
  obtain ⟨n, f, L, gA⟩ := ma_get hi
  obtain ⟨a1, a2, a3, a4, a5, a6, a7⟩ := hV.2.1 _ (List.mem_of_getElem? gA)
  cases pA : L.all plQ with
  | false =>
    obtain ⟨o, h1, h2⟩ := mkr_no' (P := fun _ => False) (c := fun m => F_X7_least N m (nI i)) (Ms := Ms) (w := w) (ls := ls) (fun m hC => by
      show F_X7_least N m (nI i) = _
      unfold F_X7_least
      rw [calx_t (need_ok hC v1 hi), calx_e (np_no (by omega) hN (hC.2.1 i _ gA) a5 a3 pA)])
    refine ⟨o, fun M hM => (h1 M hM).2.2.2.elim, fun M hM hnf => ?_, h2⟩
    have : M = (n, f, L) := Option.some.inj (hM.symm.trans gA)
    have := hnf.pl
    subst M
    have this : L.all plQ = true := this
    rw [pA] at this; cases this
  | true =>
    obtain ⟨k1, k2⟩ := mk_sets (what := 0) (c := fun m => F_X7_least N m (nI i)) (EX := fun m => F_X5_exploreOne N m (200 + 4 * i)) (Ms := Ms) (w := w) (ls := ls) (LB := L) (e2 := nI 0) hN hV (by omega) (fun m hC => cl_exOne hN (by omega) (hC.2.1 i _ gA) a5 a1 a2 a3 a6 L) (fun m hC => by
      show F_X7_least N m (nI i) = _
      unfold F_X7_least clT
      rw [calx_t (need_ok hC v1 hi), calx_t (np_ok (by omega) hN (hC.2.1 i _ gA) a5 a3 pA)]
      simp (disch := omega) only [zi_t, zi_f, bnd_t, zg_in, zx, nI_ltI, nI_leI, nI_eq, nI_add, pk_mul, pk_sub, mup_s, mup_c, mup_j, mrw_c, if_pos, if_neg, zm_1, zm_2, zm_3, zm_4, zm_5, zm_6, zm_7, zm_8, zm_9, zf_0, zf_1, zf_2, zf_3, zf_4, zf_5, zf_6, zf_7, zf_8, zf_9, zf_10, zf_14, zf_15, zf_16, zf_18, zf_19, zf_20, zf_24, zf_30, zf_31, zf_32, zf_33, zf_99, zf_100, zf_160, zf_200, zf_287, zf_288, zf_300, zf_1000, zf_1023, zf_1024, zf_1600, zf_3840, zf_25600, zf_36000, zf_1000000, zf_1000000000, zf_2000000000, zf_11560, za_1, za_2, za_4, za_5, za_6, za_7, za_8, za_9, za_10, za_11, za_12, za_14, za_15, za_22, za_23, za_25, za_26, za_27, za_28, za_29, za_30, za_31, za_32, za_33, za_34, za_35, za_41, za_42, za_43, za_44, za_45, za_46, za_47, za_48, za_49, za_61, za_62, za_63, za_64, za_65, za_70])
    cases hx : exF 0 L L with
    | none =>
      refine ⟨none, fun M hM => (by cases hM), fun M hM hnf => ?_, fun m hC => ?_⟩
      · have e : M = (n, f, L) := Option.some.inj (hM.symm.trans gA)
        subst e
        obtain ⟨⟨s, e1, _⟩, _⟩ := exF_id hnf.db a5 a1 a2
        have e1 : exF 0 L L = some s := e1
        rw [hx] at e1; cases e1
      · show CR _ m (.inr 1) (Ms ++ []) w ls
        rw [List.append_nil]
        exact k1 hx m hC
    | some s =>
      have hok : XOK s (8 * s.1.length) := exR_fin hx
      obtain ⟨d, hd⟩ := xok_d hok
      obtain ⟨wa, hwa⟩ : ∃ wa, wa = waf (wnW 0) (eB f n) (nI 0) s.1 := ⟨_, rfl⟩
      obtain ⟨u, hu⟩ := uof_ex d wa s.1.length
      have hdc : ∀ k x y, k < s.1.length → x < 8 → d k x = some y → y < s.1.length := fun k x y hk hx h => (hd k x hk hx).2 y h
      obtain ⟨oM, h1, h2, h3⟩ := k2 s d wa u hx hd hwa hu
      refine ⟨oM, fun M hM => ?_, fun M hM hnf => ?_, h3⟩
      · subst hM
        obtain ⟨b1, b2⟩ := h2 M rfl
        by_cases c24 : Ms.length < 24
        · rw [if_pos c24] at h1
          obtain ⟨n1, n2⟩ := nf_set hok.1 hu hdc b1 h1
          exact ⟨c24, b1, b2, n1, n, f, L, gA, pA, fun w hw => by rw [n2 w hw, acD_lang a5 a2 a1 hx hd hwa w hw]⟩
        · rw [if_neg c24] at h1; cases h1
      · have e : M = (n, f, L) := Option.some.inj (hM.symm.trans gA)
        by_cases c24 : Ms.length < 24
        · rw [if_pos c24] at h1
          refine Or.inl (set_id hnf (s := s) ?_ hd ?_ hu h1)
          · rw [e]; exact hx
          · rw [e]; exact hwa
        · rw [if_neg c24] at h1
          exact Or.inr ⟨h1, by omega⟩
theorem mk_meet {N i j : Nat} {u : Bool} (hN : 40000 < N) (Ms : List Ma) (w : List Nat) (ls : Ls) (hV : InV Ms w ls) (hi : i < Ms.length) (hj : j < Ms.length) : MkR (fun _ => True) (fun m => F_X7_meet N m (nI i) (nI j) (bI u)) Ms w ls := by
  have v1 := hV.1
  obtain ⟨nA, fA, LA, gA⟩ := ma_get hi
  obtain ⟨nB, fB, LB, gB⟩ := ma_get hj
  obtain ⟨a1, a2, a3, a4, a5, a6, a7⟩ := hV.2.1 _ (List.mem_of_getElem? gA)
  obtain ⟨b1, b2, b3, b4, b5, b6, b7⟩ := hV.2.1 _ (List.mem_of_getElem? gB)
  cases pA : LA.all plQ with
  | false =>
    refine mkr_no' (fun m hC => ?_)
    show F_X7_meet N m (nI i) (nI j) _ = _
    unfold F_X7_meet
    rw [calx_t (need_ok hC v1 hi), calx_t (need_ok hC v1 hj), calx_e (np_no (by omega) hN (hC.2.1 i _ gA) a5 a3 pA)]
  | true =>
    cases pB : LB.all plQ with
    | false =>
      refine mkr_no' (fun m hC => ?_)
      show F_X7_meet N m (nI i) (nI j) _ = _
      unfold F_X7_meet
      rw [calx_t (need_ok hC v1 hi), calx_t (need_ok hC v1 hj), calx_t (np_ok (by omega) hN (hC.2.1 i _ gA) a5 a3 pA), calx_e (np_no (by omega) hN (hC.2.1 j _ gB) b5 b3 pB)]
    | true =>
      have key : ∀ wh : Nat, (wh = if u = true then 1 else 2) → MkR (fun _ => True) (fun m => F_X7_meet N m (nI i) (nI j) (bI u)) Ms w ls := by
        intro wh hwh
        have hwh3 : wh = 1 ∨ wh = 2 := by rw [hwh]; split <;> omega
        obtain ⟨k1, k2⟩ := mk_sets (what := wh) (c := fun m => F_X7_meet N m (nI i) (nI j) (bI u)) (EX := fun m => F_X5_exploreTwo N m (200 + 4 * i) (200 + 4 * j) (nI (wnW wh))) (Ms := Ms) (w := w) (ls := ls) (eA := eB fA nA) (e2 := eB fB nB) hN hV (by omega) (fun m hC => cl_exTwo hN (by omega) (by omega) (hC.2.1 i _ gA) a5 a1 a2 a3 a6 (hC.2.1 j _ gB) b5 b1 b2 b3 b6 (by omega) (by omega)) (fun m hC => by
          show F_X7_meet N m (nI i) (nI j) _ = _
          unfold F_X7_meet
          rw [calx_t (need_ok hC v1 hi), calx_t (need_ok hC v1 hj), calx_t (np_ok (by omega) hN (hC.2.1 i _ gA) a5 a3 pA), calx_t (np_ok (by omega) hN (hC.2.1 j _ gB) b5 b3 pB)]
          cases u with
          | true =>
            rw [if_pos rfl] at hwh
            rw [hwh]
            unfold B_X7_meet_29 clT
            simp (disch := omega) only [zi_t, zi_f, bnd_t, zg_in, zx, nI_ltI, nI_leI, nI_eq, nI_add, pk_mul, pk_sub, mup_s, mup_c, mup_j, mrw_c, if_pos, if_neg, zm_1, zm_2, zm_3, zm_4, zm_5, zm_6, zm_7, zm_8, zm_9, zf_0, zf_1, zf_2, zf_3, zf_4, zf_5, zf_6, zf_7, zf_8, zf_9, zf_10, zf_14, zf_15, zf_16, zf_18, zf_19, zf_20, zf_24, zf_30, zf_31, zf_32, zf_33, zf_99, zf_100, zf_160, zf_200, zf_287, zf_288, zf_300, zf_1000, zf_1023, zf_1024, zf_1600, zf_3840, zf_25600, zf_36000, zf_1000000, zf_1000000000, zf_2000000000, zf_11560, za_1, za_2, za_4, za_5, za_6, za_7, za_8, za_9, za_10, za_11, za_12, za_14, za_15, za_22, za_23, za_25, za_26, za_27, za_28, za_29, za_30, za_31, za_32, za_33, za_34, za_35, za_41, za_42, za_43, za_44, za_45, za_46, za_47, za_48, za_49, za_61, za_62, za_63, za_64, za_65, za_70, bI_t]
            rfl
          | false =>
            rw [if_neg (by simp)] at hwh
            rw [hwh]
            unfold B_X7_meet_29 clT
            simp (disch := omega) only [zi_t, zi_f, bnd_t, zg_in, zx, nI_ltI, nI_leI, nI_eq, nI_add, pk_mul, pk_sub, mup_s, mup_c, mup_j, mrw_c, if_pos, if_neg, zm_1, zm_2, zm_3, zm_4, zm_5, zm_6, zm_7, zm_8, zm_9, zf_0, zf_1, zf_2, zf_3, zf_4, zf_5, zf_6, zf_7, zf_8, zf_9, zf_10, zf_14, zf_15, zf_16, zf_18, zf_19, zf_20, zf_24, zf_30, zf_31, zf_32, zf_33, zf_99, zf_100, zf_160, zf_200, zf_287, zf_288, zf_300, zf_1000, zf_1023, zf_1024, zf_1600, zf_3840, zf_25600, zf_36000, zf_1000000, zf_1000000000, zf_2000000000, zf_11560, za_1, za_2, za_4, za_5, za_6, za_7, za_8, za_9, za_10, za_11, za_12, za_14, za_15, za_22, za_23, za_25, za_26, za_27, za_28, za_29, za_30, za_31, za_32, za_33, za_34, za_35, za_41, za_42, za_43, za_44, za_45, za_46, za_47, za_48, za_49, za_61, za_62, za_63, za_64, za_65, za_70, bI_f]
            rfl)
        cases hx : exF wh LA LB with
        | none =>
          refine ⟨none, fun M hM => (by cases hM), fun m hC => ?_⟩
          show CR _ m (.inr 1) (Ms ++ []) w ls
          rw [List.append_nil]
          exact k1 hx m hC
        | some s =>
          have hok : XOK s (8 * s.1.length) := exR_fin hx
          obtain ⟨d, hd⟩ := xok_d hok
          obtain ⟨wa, hwa⟩ : ∃ wa, wa = waf (wnW wh) (eB fA nA) (eB fB nB) s.1 := ⟨_, rfl⟩
          obtain ⟨v, hu⟩ := uof_ex d wa s.1.length
          obtain ⟨oM, h1, h2, h3⟩ := k2 s d wa v hx hd hwa hu
          refine ⟨oM, fun M hM => ?_, h3⟩
          subst hM
          obtain ⟨b1, b2⟩ := h2 M rfl
          by_cases c24 : Ms.length < 24
          · exact ⟨c24, b1, b2, trivial⟩
          · rw [if_neg c24] at h1; cases h1
      exact key _ rfl
