/-! sets of both sides, to the end -/
def clT (N : Nat) (r : Int32) (m : Mem) : Option ((Int32 ⊕ Nat) × Mem) := calx (F_X7_needSets N m r) fun _ m14 => cal (F_X5_draw N m14) fun r19 m18 => calx (F_X7_needStates N m18 r19) fun _ m21 => calx (F_X7_keepDraft N m21) fun r26 m25 => some (.inl r26, m25)
theorem st_ok {N : Nat} {m : Mem} : F_X7_needStates N m (nI 1) = some (.inl 0, m) := by
  unfold F_X7_needStates
  simp (disch := omega) only [zi_t, zi_f, bnd_t, zg_in, zx, nI_ltI, nI_leI, nI_eq, nI_add, pk_mul, pk_sub, mup_s, mup_c, mup_j, mrw_c, if_pos, if_neg, zm_1, zm_2, zm_3, zm_4, zm_5, zm_6, zm_7, zm_8, zm_9, zf_0, zf_1, zf_2, zf_3, zf_4, zf_5, zf_6, zf_7, zf_8, zf_9, zf_10, zf_14, zf_15, zf_16, zf_18, zf_19, zf_20, zf_24, zf_30, zf_31, zf_32, zf_33, zf_99, zf_100, zf_160, zf_200, zf_287, zf_288, zf_300, zf_1000, zf_1023, zf_1024, zf_1600, zf_3840, zf_25600, zf_36000, zf_1000000, zf_1000000000, zf_2000000000, zf_11560, za_1, za_2, za_4, za_5, za_6, za_7, za_8, za_9, za_10, za_11, za_12, za_14, za_15, za_22, za_23, za_25, za_26, za_27, za_28, za_29, za_30, za_31, za_32, za_33, za_34, za_35, za_41, za_42, za_43, za_44, za_45, za_46, za_47, za_48, za_49, za_61, za_62, za_63, za_64, za_65, za_71, za_72, za_73, za_74, za_75, za_76, za_77, za_78, za_79, za_80, za_81, za_82, za_83, za_84, za_85, za_86, za_87, za_88, za_89, za_90, za_91, za_92, za_93, za_94, za_95, za_96, za_97, za_98, za_99, za_100, za_101, za_102, za_103, za_104, za_105, za_106, za_107, za_108]
theorem st_no {N : Nat} {m : Mem} : F_X7_needStates N m (nI 0) = some (.inr 1, m) := by
  unfold F_X7_needStates
  simp (disch := omega) only [zi_t, zi_f, bnd_t, zg_in, zx, nI_ltI, nI_leI, nI_eq, nI_add, pk_mul, pk_sub, mup_s, mup_c, mup_j, mrw_c, if_pos, if_neg, zm_1, zm_2, zm_3, zm_4, zm_5, zm_6, zm_7, zm_8, zm_9, zf_0, zf_1, zf_2, zf_3, zf_4, zf_5, zf_6, zf_7, zf_8, zf_9, zf_10, zf_14, zf_15, zf_16, zf_18, zf_19, zf_20, zf_24, zf_30, zf_31, zf_32, zf_33, zf_99, zf_100, zf_160, zf_200, zf_287, zf_288, zf_300, zf_1000, zf_1023, zf_1024, zf_1600, zf_3840, zf_25600, zf_36000, zf_1000000, zf_1000000000, zf_2000000000, zf_11560, za_1, za_2, za_4, za_5, za_6, za_7, za_8, za_9, za_10, za_11, za_12, za_14, za_15, za_22, za_23, za_25, za_26, za_27, za_28, za_29, za_30, za_31, za_32, za_33, za_34, za_35, za_41, za_42, za_43, za_44, za_45, za_46, za_47, za_48, za_49, za_61, za_62, za_63, za_64, za_65, za_71, za_72, za_73, za_74, za_75, za_76, za_77, za_78, za_79, za_80, za_81, za_82, za_83, za_84, za_85, za_86, za_87, za_88, za_89, za_90, za_91, za_92, za_93, za_94, za_95, za_96, za_97, za_98, za_99, za_100, za_101, za_102, za_103, za_104, za_105, za_106, za_107, za_108]
theorem InC.fw {m m' : Mem} {Ms : List Ma} {w : List Nat} {ls : Ls} {q q' : Nat} (h : InC m Ms w ls) (hf : FrW m m') (hq : QQ m' q q') : InC m' Ms w ls := by
  obtain ⟨h1, h2, h3, h4, h5, h6, h7⟩ := h
  refine ⟨by rw [hf 0 (by omega) (by omega) (by omega)]; exact h1, fun i M hM => (h2 i M hM).cg (hf _ (by omega) (by omega) (by omega)) (hf _ (by omega) (by omega) (by omega)) (hf _ (by omega) (by omega) (by omega)) (hf _ (by omega) (by omega) (by omega)), by rw [hf 0 (by omega) (by omega) (by omega)]; exact h3, fun j x hx => by rw [hf 1 (by omega) (by omega) (by omega)]; exact h4 j x hx, by rw [hf 60 (by omega) (by omega) (by omega)]; exact h5, fun i p hp => ?_, ?_⟩
  · obtain ⟨a, b, c⟩ := h6 i p hp
    exact ⟨by rw [hf 62 (by omega) (by omega) (by omega)]; exact a, by rw [hf 63 (by omega) (by omega) (by omega)]; exact b, fun j x hx => by rw [hf 61 (by omega) (by omega) (by omega)]; exact c j x hx⟩
  · obtain ⟨q1, q2, q3⟩ := hq
    rcases q3 with ⟨rfl, rfl⟩ | ⟨rfl, rfl⟩
    · exact Or.inl ⟨q1, q2⟩
    · exact Or.inr ⟨q1, q2⟩
theorem InC.qq {m : Mem} {Ms : List Ma} {w : List Nat} {ls : Ls} (h : InC m Ms w ls) : ∃ q q', QQ m q q' := by
  rcases h.2.2.2.2.2.2 with ⟨a, b⟩ | ⟨a, b⟩
  · exact ⟨33, 34, a, b, Or.inl ⟨rfl, rfl⟩⟩
  · exact ⟨34, 33, a, b, Or.inr ⟨rfl, rfl⟩⟩
theorem CR.fr {o : Option ((Int32 ⊕ Nat) × Mem)} {m m0 : Mem} {r : Int32 ⊕ Nat} {Ms : List Ma} {w : List Nat} {ls : Ls} (h : CR o m r Ms w ls) (hf : ∀ k, 64 ≤ k → k < 200 → m k = m0 k) : CR o m0 r Ms w ls := by
  obtain ⟨m1, h1, h2, h3⟩ := h
  exact ⟨m1, h1, h2, fun k a b => by rw [h3 k a b, hf k a b]⟩
theorem cl_tail {N wn t : Nat} {eA eB' : Int32} {m : Mem} {s : XS} {d : Nat → Nat → Option Nat} {wa u : Nat → Bool} {Ms : List Ma} {w : List Nat} {ls : Ls} {oM : Option Ma} (hN : 40000 < N) (hI : InC m Ms w ls) (v1 : Ms.length ≤ 24) (h : CX m s (8 * s.1.length)) (hok : XOK s (8 * s.1.length)) (hl : s.1.length ≤ 200) (hw : CW m wn eA eB') (hwn : wn < 3) (hd : DOf s d) (hwa : wa = waf wn eA eB' s.1) (hu : UOf d wa s.1.length u)
    (ht : Mc (dpr d u) wa s.1.length (t + 2) = Mc (dpr d u) wa s.1.length (t + 1)) (ht2 : ∀ t', t' < t → Mc (dpr d u) wa s.1.length (t' + 2) ≠ Mc (dpr d u) wa s.1.length (t' + 1))
    (hM : if Ms.length < 24 then Made 1024 (Ss (dpr d u) wa (t + 2) 0) (lsE d wa u s.1.length t) (lsD d wa u s.1.length t) oM else oM = none) : CR (clT N (nI 1) m) m (rsC Ms.length oM) (Ms ++ oM.toList) w ls := by
  have h1 := hok.1
  have hdc : ∀ k x y, k < s.1.length → x < 8 → d k x = some y → y < s.1.length := fun k x y hk hx h => (hd k x hk hx).2 y h
  have hmf := mc_fc (wa := wa) hu hdc
  have hall := dR_all hok hd
  obtain ⟨m2, f1, ⟨q, q', f2⟩, f3⟩ := cl_draw hN h hl h1 hw hwn hd hwa hu hI.qq
  have hI2 := hI.fw f1 f2
  have hfr : ∀ k, 64 ≤ k → k < 200 → m2 k = m k := fun k a b => f1 k (by omega) (by omega) (by omega)
  unfold clT
  rw [calx_t ns_ok]
  rcases f3 with ⟨u0, g1, g2⟩ | ⟨u0, ⟨t1, g1, g2⟩, g3⟩ | ⟨u0, t1, mem, g0, g1, g2, g3, g4, g5, g6, g7⟩
  · rw [cal_t g1, calx_t st_ok]
    refine CR.fr (cr_make (m := m2) (n := 1) (st := 0) (E := fun _ => false) (D := []) (by omega) hI2 v1 (by omega) (by omega) (by show 0 ≤ 25600; omega) (fun q hq => by cases hq) ?_ ⟨m2, rfl, Off.rf, g2⟩) hfr
    by_cases c : Ms.length < 24
    · rw [if_pos c] at hM ⊢
      exact ls_dead hl h1 hu hdc hall u0 hM
    · rw [if_neg c] at hM ⊢; exact hM
  · have ho : oM = none := by
      by_cases c : Ms.length < 24
      · rw [if_pos c] at hM
        refine ls_big hl h1 hu hdc hall ht ?_ hM
        have e1 : Mc (dpr d u) wa s.1.length (t + 2) = Fc d wa u s.1.length (t + 2) + cnt (ndF u) s.1.length := hmf (t + 1)
        have e2 := hmf t
        have hle : t1 + 1 ≤ t + 2 := by
          rcases Nat.lt_or_ge t1 (t + 2) with c2 | c2
          · omega
          · have := g2 t c2; omega
        have hm : ∀ k, Fc d wa u s.1.length (t1 + 1) ≤ Fc d wa u s.1.length (t1 + 1 + k) := by
          intro k
          induction k with
          | zero => exact Nat.le_refl _
          | succ k ih =>
            have := fc_mono (d := d) (wa := wa) (u := u) (c := s.1.length) (t1 + k)
            rw [show t1 + k + 1 = t1 + 1 + k by omega, show t1 + k + 2 = t1 + 1 + (k + 1) by omega] at this
            omega
        have := hm (t + 2 - (t1 + 1))
        rw [show t1 + 1 + (t + 2 - (t1 + 1)) = t + 2 by omega] at this
        omega
      · rw [if_neg c] at hM; exact hM
    rw [ho]
    refine CR.fr (m := m2) (cr_no (by show InC m2 (Ms ++ []) w ls; rw [List.append_nil]; exact hI2) ?_) hfr
    rw [cal_t g3, calx_e st_no]
    rfl
  · have et : t1 = t := first_uq (P := fun t => Mc (dpr d u) wa s.1.length (t + 2) = Mc (dpr d u) wa s.1.length (t + 1)) (by
      have e1 := hmf (t1 + 1)
      have e2 := hmf t1
      show Mc (dpr d u) wa s.1.length (t1 + 1 + 1) = _
      rw [e1, e2, g1]) (fun t' h => by
      have e1 : Mc (dpr d u) wa s.1.length (t' + 2) = Fc d wa u s.1.length (t' + 2) + cnt (ndF u) s.1.length := hmf (t' + 1)
      have e2 := hmf t'
      have := g2 t' h
      intro hc
      have hc : Mc (dpr d u) wa s.1.length (t' + 2) = Mc (dpr d u) wa s.1.length (t' + 1) := hc
      rw [e1, e2] at hc
      exact this (by omega)) ht ht2
    subst et
    obtain ⟨oX, hoX⟩ := made_ex 1024 (Ss (dpr d u) wa (t1 + 2) 0) (lsE d wa u s.1.length t1) (lsD d wa u s.1.length t1)
    have k1 := (ls_ok hl h1 hu hdc g3 g4 u0 g5 hoX).1
    rw [cal_t g6, calx_t st_ok]
    refine CR.fr (cr_make (m := m2) (by omega) hI2 v1 k1 (by omega) (by
      have := fmN_len (h := fun g => drw d (Gs d wa u (t1 + 2)) (mem g) g 8) (c := 8) (fun g => drw_len _ _ _ _ _) (Fc d wa u s.1.length (t1 + 2))
      show (fmN (fun g => drw d (Gs d wa u (t1 + 2)) (mem g) g 8) (Fc d wa u s.1.length (t1 + 2))).length ≤ 25600
      omega) (dr_af g3 hu hdc g4) ?_ ⟨m2, rfl, Off.rf, g7⟩) hfr
    by_cases c : Ms.length < 24
    · rw [if_pos c] at hM ⊢
      exact (ls_ok hl h1 hu hdc g3 g4 u0 g5 hM).2
    · rw [if_neg c] at hM ⊢; exact hM
theorem sim_sets {κ : Nat → Int32} {c : Mem → Option ((Int32 ⊕ Nat) × Mem)} {d : Mem → Option (Int32 × Mem)} {EX : Mem → Option (Int32 × Mem)} {Ms : List Ma} {w : List Nat} {ls : Ls} {N i j nA nB what : Nat} {fA fB : Nat → Bool} {LA LB : ArL} {e2 : Int32} (hN : 40000 < N) (hV : InV Ms w ls) (hκ : κ 1 = nI 2) (hi : i < Ms.length) (hj : j < Ms.length) (gA : Ms[i]? = some (nA, fA, LA)) (gB : Ms[j]? = some (nB, fB, LB)) (hwh : what < 3) (he2 : e2 = if what = 0 then nI 0 else eB fB nB)
    (hex : ∀ m, InC m Ms w ls → ∃ m', FrS m m' ∧ ((exF what LA LB = none ∧ EX m = some (nI 0, m')) ∨ ∃ s, exF what LA LB = some s ∧ EX m = some (nI 1, m') ∧ CX m' s (8 * s.1.length) ∧ s.1.length ≤ 200 ∧ CW m' (wnW what) (eB fA nA) e2))
    (hc : ∀ m, InC m Ms w ls → c m = cal (EX m) (clT N))
    (hd : ∀ m, InM m Ms w ls → Ms.length < 24 → d m = cal (F_X8_makesLeast N m (nI i) (nI j) (nI what)) (fun r m1 => tlJ N m1 (if r = nI 0 then nI 2 else nI 0)))
    (hd2 : ∀ m, InM m Ms w ls → ¬ Ms.length < 24 → d m = some (nI 0, mup m 70 0 (nI 2))) : Sim1 κ c d Ms w ls := by
  have v1 := hV.1
  obtain ⟨a1, a2, a3, a4, a5, a6, a7⟩ := hV.2.1 _ (List.mem_of_getElem? gA)
  obtain ⟨b1, b2, b3, b4, b5, b6, b7⟩ := hV.2.1 _ (List.mem_of_getElem? gB)
  have hwn : wnW what < 3 := by unfold wnW; split <;> (try split) <;> omega
  have hmo : ∀ m, InM m Ms w ls → _ := fun m hM => mo_makes (what := what) hN (by omega) (by omega) (hM.2.1 i _ gA) a5 a2 a3 (hM.2.1 j _ gB) b5 b2 b3 (by omega) he2
  have htl : ∀ m, tlJ N m (nI 2) = some (nI 0, mup m 70 0 (nI 2)) := by
    intro m
    unfold tlJ
    rw [cal_t (fine_x (by omega) (by omega))]
    simp (disch := omega) only [zi_t, zi_f, bnd_t, zg_in, zx, nI_ltI, nI_leI, nI_eq, nI_add, pk_mul, pk_sub, mup_s, mup_c, mup_j, mrw_c, if_pos, if_neg, zm_1, zm_2, zm_3, zm_4, zm_5, zm_6, zm_7, zm_8, zm_9, zf_0, zf_1, zf_2, zf_3, zf_4, zf_5, zf_6, zf_7, zf_8, zf_9, zf_10, zf_14, zf_15, zf_16, zf_18, zf_19, zf_20, zf_24, zf_30, zf_31, zf_32, zf_33, zf_99, zf_100, zf_160, zf_200, zf_287, zf_288, zf_300, zf_1000, zf_1023, zf_1024, zf_1600, zf_3840, zf_25600, zf_36000, zf_1000000, zf_1000000000, zf_2000000000, zf_11560, za_1, za_2, za_4, za_5, za_6, za_7, za_8, za_9, za_10, za_11, za_12, za_14, za_15, za_22, za_23, za_25, za_26, za_27, za_28, za_29, za_30, za_31, za_32, za_33, za_34, za_35, za_41, za_42, za_43, za_44, za_45, za_46, za_47, za_48, za_49, za_61, za_62, za_63, za_64, za_65, za_71, za_72, za_73, za_74, za_75, za_76, za_77, za_78, za_79, za_80, za_81, za_82, za_83, za_84, za_85, za_86, za_87, za_88, za_89, za_90, za_91, za_92, za_93, za_94, za_95, za_96, za_97, za_98, za_99, za_100, za_101, za_102, za_103, za_104, za_105, za_106, za_107, za_108]
  cases hx : exF what LA LB with
  | none =>
    refine ⟨.inr 1, nI 2, nI 0, Ms, w, ls, hV, fun m hC => ?_, fun m hM => ?_, hκ.symm, fun v hv => by cases hv⟩
    · obtain ⟨m', f1, f2⟩ := hex m hC
      rcases f2 with ⟨_, f2⟩ | ⟨s, f2, _⟩
      · refine CR.fr (m := m') (cr_no (hC.fS f1) ?_) (fun k k1 k2 => f1.1 k (by omega))
        rw [hc m hC, cal_t f2]
        unfold clT
        rw [calx_e ns_no]
      · rw [hx] at f2; cases f2
    · by_cases hl24 : Ms.length < 24
      · rcases hmo m hM with ⟨_, m', g1, g2⟩ | ⟨s, g1, _⟩
        · refine mor_no (hM.fx g2 (by omega) (by omega) (by simp) (by simp) (by simp)) ?_ (fun k hk => g2.1 k (by omega) (by omega))
          rw [hd m hM hl24, cal_t g1, if_pos rfl, htl]
        · rw [hx] at g1; cases g1
      · exact mor_no hM (hd2 m hM hl24) (fun _ _ => rfl)
  | some s =>
    have hok : XOK s (8 * s.1.length) := exR_fin hx
    obtain ⟨dd, hdd⟩ := xok_d hok
    obtain ⟨wa, hwa⟩ : ∃ wa, wa = waf (wnW what) (eB fA nA) e2 s.1 := ⟨_, rfl⟩
    obtain ⟨u, hu⟩ := uof_ex dd wa s.1.length
    obtain ⟨t, ht, ht2⟩ := mc_first (dpr dd u) wa s.1.length
    have hdc : ∀ k x y, k < s.1.length → x < 8 → dd k x = some y → y < s.1.length := fun k x y hk hx h => (hdd k x hk hx).2 y h
    have hl : s.1.length ≤ 200 := hok.2.1
    have h1 := hok.1
    obtain ⟨k1, k2, k3⟩ := ls_af (wa := wa) (u := u) (t := t) hl hdc
    have hst : Ss (dpr dd u) wa (t + 2) 0 < s.1.length := ss_bd (by omega)
    have hcl : ∀ oM, (if Ms.length < 24 then Made 1024 (Ss (dpr dd u) wa (t + 2) 0) (lsE dd wa u s.1.length t) (lsD dd wa u s.1.length t) oM else oM = none) → ∀ m, InC m Ms w ls → CR (c m) m (rsC Ms.length oM) (Ms ++ oM.toList) w ls := by
      intro oM hoM m hC
      obtain ⟨m', f1, f2⟩ := hex m hC
      rcases f2 with ⟨f2, _⟩ | ⟨s', f2, f3, f4, f5, f6⟩
      · rw [hx] at f2; cases f2
      · rw [hx] at f2
        have e := Option.some.inj f2
        subst e
        rw [hc m hC, cal_t f3]
        exact CR.fr (cl_tail hN (hC.fS f1) v1 f4 hok hl f6 hwn hdd hwa hu ht ht2 hoM) (fun k k1 k2 => f1.1 k (by omega))
    by_cases hl24 : Ms.length < 24
    · obtain ⟨oM, hoM⟩ := made_ex 1024 (Ss (dpr dd u) wa (t + 2) 0) (lsE dd wa u s.1.length t) (lsD dd wa u s.1.length t)
      have hV2 : InV (Ms ++ oM.toList) w ls := inv_add hV (fun M e => ⟨hl24, by subst e; exact hoM.ok (by omega) k1 k2 k3⟩)
      refine ⟨rsC Ms.length oM, kap κ (rsC Ms.length oM), match oM with | none => nI 0 | some _ => nI Ms.length, Ms ++ oM.toList, w, ls, hV2, hcl oM (by rw [if_pos hl24]; exact hoM), fun m hM => ?_, rfl, ?_⟩
      · rcases hmo m hM with ⟨g1, _⟩ | ⟨s', g1, _, g2⟩
        · rw [hx] at g1; cases g1
        · rw [hx] at g1
          have e := Option.some.inj g1
          subst e
          obtain ⟨t', mw, p1, p2, p3, p4, p5⟩ := g2 dd u hdd (by rw [← hwa]; exact hu)
          rw [← hwa] at p1 p2 p3 p5
          have et : t' = t := first_uq (P := fun t => Mc (dpr dd u) wa s.1.length (t + 2) = Mc (dpr dd u) wa s.1.length (t + 1)) p1 p2 ht ht2
          subst et
          have hlen := mnD_len (dpr dd u) (Ss (dpr dd u) wa (t' + 2)) s.1.length
          obtain ⟨o2, m1, g1, g2, g3, g4⟩ := mod_trims (st := Ss (dpr dd u) wa (t' + 2) 0) hN p3 (by omega) k1 (by omega)
          have e : o2 = oM := Made.uq g1 hoM (fun q => Iff.rfl) (by omega) (by omega) k1 k1 (fun s _ hs => rfl)
          subst e
          have hM1 : InM m1 Ms w ls := (hM.fx p4 (by omega) (by omega) (by simp) (by simp) (by simp)).fx g3 (by omega) (by omega) (by simp) (by simp) (by simp)
          have hfr : ∀ k, (k < 70 ∨ 108 ≤ k) → m1 k = m k := fun k hk => by rw [g3.1 k (by omega) (by omega), p4.1 k (by omega) (by omega)]
          have hd3 : d m = tlJ N m1 (if bI o2.isSome = nI 0 then nI 2 else nI 0) := by rw [hd m hM hl24, p5, cal_t (tW_of g2)]
          cases o2 with
          | none =>
            refine ⟨mup m1 70 0 (nI 2), ?_, ?_, ?_, fun k hk => by rw [mup_r (by omega), hfr k hk]⟩
            · rw [hd3]
              show tlJ N m1 (nI 2) = _
              exact htl m1
            · rw [mup_s]
              exact hκ.symm
            · show InM _ (Ms ++ []) w ls
              rw [List.append_nil]
              exact hM1.up0 _
          | some M =>
            obtain ⟨m2, k1, k2, k3, k4⟩ := mod_keeps (m := mup m1 70 0 (nI 0)) hN (hM1.up0 (nI 0)) (fun X hX => (hV.2.1 X hX).2.2.1) ((g4 M rfl).sl (nI 0)) k1 (by omega) hl24
            refine ⟨m2, ?_, ?_, k2, fun k hk => by rw [k4 k hk, mup_r (by omega), hfr k hk]⟩
            · rw [hd3]
              show tlJ N m1 (nI 0) = _
              unfold tlJ
              rw [cal_t fine_0]
              simp (disch := omega) only [zi_t, zi_f, bnd_t, zg_in, zx, nI_ltI, nI_leI, nI_eq, nI_add, pk_mul, pk_sub, mup_s, mup_c, mup_j, mrw_c, if_pos, if_neg, zm_1, zm_2, zm_3, zm_4, zm_5, zm_6, zm_7, zm_8, zm_9, zf_0, zf_1, zf_2, zf_3, zf_4, zf_5, zf_6, zf_7, zf_8, zf_9, zf_10, zf_14, zf_15, zf_16, zf_18, zf_19, zf_20, zf_24, zf_30, zf_31, zf_32, zf_33, zf_99, zf_100, zf_160, zf_200, zf_287, zf_288, zf_300, zf_1000, zf_1023, zf_1024, zf_1600, zf_3840, zf_25600, zf_36000, zf_1000000, zf_1000000000, zf_2000000000, zf_11560, za_1, za_2, za_4, za_5, za_6, za_7, za_8, za_9, za_10, za_11, za_12, za_14, za_15, za_22, za_23, za_25, za_26, za_27, za_28, za_29, za_30, za_31, za_32, za_33, za_34, za_35, za_41, za_42, za_43, za_44, za_45, za_46, za_47, za_48, za_49, za_61, za_62, za_63, za_64, za_65, za_71, za_72, za_73, za_74, za_75, za_76, za_77, za_78, za_79, za_80, za_81, za_82, za_83, za_84, za_85, za_86, za_87, za_88, za_89, za_90, za_91, za_92, za_93, za_94, za_95, za_96, za_97, za_98, za_99, za_100, za_101, za_102, za_103, za_104, za_105, za_106, za_107, za_108]
              rw [cal_t k1]
            · rw [k3, mup_s]; rfl
      · intro v hv
        cases oM with
        | none => cases hv
        | some M => injection hv
    · refine ⟨rsC Ms.length none, nI 2, nI 0, Ms ++ (none : Option Ma).toList, w, ls, inv_add hV (fun M e => by cases e), hcl none (by rw [if_neg hl24]), fun m hM => ?_, hκ.symm, fun v hv => by cases hv⟩
      show MoR _ _ _ _ (Ms ++ []) w ls
      rw [List.append_nil]
      exact mor_no hM (hd2 m hM hl24) (fun _ _ => rfl)
