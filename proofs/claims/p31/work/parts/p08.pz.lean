
/-! making from pairs of sets -/
def clT (N : Nat) (r : Int32) (m : Mem) : Option ((Int32 ⊕ Nat) × Mem) := calx (F_X7_needSets N m r) fun _ m14 => cal (F_X5_draw N m14) fun r19 m18 => calx (F_X7_needStates N m18 r19) fun _ m21 => calx (F_X7_keepDraft N m21) fun r26 m25 => some (.inl r26, m25)
def C3 (d : Nat → Nat → Option Nat) (wa u : Nat → Bool) (c t : Nat) (mem : Nat → Nat) (g0 : Nat) : Prop :=
  u 0 = true ∧ Fc d wa u c (t + 2) = Fc d wa u c (t + 1) ∧ (∀ t', t' < t → Fc d wa u c (t' + 2) ≠ Fc d wa u c (t' + 1)) ∧ Fc d wa u c (t + 2) ≤ 32 ∧ MemOf d wa u c t mem ∧ Gs d wa u (t + 2) 0 = some g0
def SetO (c : Nat) (d : Nat → Nat → Option Nat) (wa u : Nat → Bool) (o : Option Ma) : Prop :=
  (u 0 = false ∧ Made 1 0 (fun _ => false) [] o) ∨ (∃ t mem g0, C3 d wa u c t mem g0 ∧ Made (Fc d wa u c (t + 2)) g0 (drE wa mem (Fc d wa u c (t + 2))) (drD d (Gs d wa u (t + 2)) mem (Fc d wa u c (t + 2))) o) ∨
  (u 0 = true ∧ (∃ t, 33 ≤ Fc d wa u c (t + 1)) ∧ o = none)
section SETS
variable {d : Nat → Nat → Option Nat} {wa u : Nat → Bool} {c t : Nat} {mem : Nat → Nat}
theorem fc_first (hu : UOf d wa c u) (hdc : ∀ k x y, k < c → x < 8 → d k x = some y → y < c) : ∃ t, Fc d wa u c (t + 2) = Fc d wa u c (t + 1) ∧ ∀ t', t' < t → Fc d wa u c (t' + 2) ≠ Fc d wa u c (t' + 1) := by
  have hmf := mc_fc (wa := wa) hu hdc
  obtain ⟨t, h1, h2⟩ := mc_first (dpr d u) wa c
  refine ⟨t, ?_, fun t' h e => h2 t' h ?_⟩
  · have e1 := hmf (t + 1)
    have e2 := hmf t
    have h1 : Mc (dpr d u) wa c (t + 1 + 1) = Mc (dpr d u) wa c (t + 1) := h1
    rw [e1, e2] at h1
    have : Fc d wa u c (t + 1 + 1) = Fc d wa u c (t + 1) := by omega
    exact this
  · have e1 := hmf (t' + 1)
    have e2 := hmf t'
    show Mc (dpr d u) wa c (t' + 1 + 1) = _
    rw [e1, e2]
    have e : Fc d wa u c (t' + 1 + 1) = Fc d wa u c (t' + 1) := e
    omega
theorem fc_up (t k : Nat) : Fc d wa u c (t + 1) ≤ Fc d wa u c (t + 1 + k) := by
  induction k with
  | zero => exact Nat.le_refl _
  | succ k ih =>
    have := fc_mono (d := d) (wa := wa) (u := u) (c := c) (t + k)
    rw [show t + k + 1 = t + 1 + k by omega, show t + k + 2 = t + 1 + (k + 1) by omega] at this
    omega
theorem c3_ex (hu : UOf d wa c u) (hdc : ∀ k x y, k < c → x < 8 → d k x = some y → y < c) (u0 : u 0 = true) : (∃ t mem g0, C3 d wa u c t mem g0) ∨ ∃ t, Fc d wa u c (t + 2) = Fc d wa u c (t + 1) ∧ (∀ t', t' < t → Fc d wa u c (t' + 2) ≠ Fc d wa u c (t' + 1)) ∧ 33 ≤ Fc d wa u c (t + 2) := by
  obtain ⟨t, h1, h2⟩ := fc_first hu hdc
  rcases Nat.lt_or_ge 32 (Fc d wa u c (t + 2)) with e | e
  · exact Or.inr ⟨t, h1, h2, e⟩
  · left
    have hch : ∀ g, ∃ i, g < Fc d wa u c (t + 2) → i < c ∧ nwF (sgC d (Gs d wa u (t + 1))) u i = true ∧ cnt (nwF (sgC d (Gs d wa u (t + 1))) u) i = g := by
      intro g
      by_cases hg : g < Fc d wa u c (t + 2)
      · obtain ⟨i, a, b, e⟩ := cnt_hit (show g < cnt (nwF (sgC d (Gs d wa u (t + 1))) u) c from hg)
        exact ⟨i, fun _ => ⟨a, b, e⟩⟩
      · exact ⟨0, fun h => absurd h hg⟩
    obtain ⟨mem, hmem⟩ := Classical.axiomOfChoice hch
    obtain ⟨g0, hg0⟩ := Gs_live (d := d) (wa := wa) (t := t + 2) u0
    exact ⟨t, mem, g0, u0, h1, h2, e, hmem, hg0⟩
theorem gs_lt {i h : Nat} (hi : i < c) (hy : Gs d wa u (t + 2) i = some h) : h < Fc d wa u c (t + 2) := by
  have hy : (if u i = true then some (nmF (sgC d (Gs d wa u (t + 1))) u i) else none) = some h := hy
  split at hy
  · rename_i ui
    have := nm_ltc (sig := sgC d (Gs d wa u (t + 1))) ui hi
    rw [← Option.some.inj hy]; exact this
  · cases hy
theorem mem_u (hm : MemOf d wa u c t mem) {g : Nat} (hg : g < Fc d wa u c (t + 2)) : mem g < c ∧ u (mem g) = true ∧ Gs d wa u (t + 2) (mem g) = some g := by
  obtain ⟨h1, h2, h3⟩ := hm g hg
  have hu := (nw_iff.mp h2).1
  refine ⟨h1, hu, ?_⟩
  show (if u (mem g) = true then some (nmF (sgC d (Gs d wa u (t + 1))) u (mem g)) else none) = some g
  rw [if_pos hu, nm_nw h2, h3]
theorem dr_af3 (hF : Fc d wa u c (t + 2) ≤ 32) (hu : UOf d wa c u) (hdc : ∀ k x y, k < c → x < 8 → d k x = some y → y < c) (hm : MemOf d wa u c t mem) : DOK (Fc d wa u c (t + 2)) (drD d (Gs d wa u (t + 2)) mem (Fc d wa u c (t + 2))) ∧ Acy upr (drD d (Gs d wa u (t + 2)) mem (Fc d wa u c (t + 2))) ∧ Acy lwr (drD d (Gs d wa u (t + 2)) mem (Fc d wa u c (t + 2))) := by
  refine AF.all (n := Fc d wa u c (t + 2)) (ru := fun _ => 0) (rl := fun _ => 0) (by omega) (fun q hq => ?_)
  obtain ⟨g, x, j, h, hg, hx, hdx, hGj, rfl⟩ := drD_mem.mp hq
  have hj := hdc (mem g) x j (hm g hg).1 hx hdx
  have hh := gs_lt hj hGj
  exact ⟨g, x, x, h, 0, rfl, hg, by omega, by omega, by omega, by omega, fun h => by omega, fun h => by omega⟩
theorem c3_uq {t' g0 g0' : Nat} {mem' : Nat → Nat} (h : C3 d wa u c t mem g0) (h' : C3 d wa u c t' mem' g0') : t' = t ∧ g0' = g0 ∧ drE wa mem' (Fc d wa u c (t + 2)) = drE wa mem (Fc d wa u c (t + 2)) ∧ drD d (Gs d wa u (t + 2)) mem' (Fc d wa u c (t + 2)) = drD d (Gs d wa u (t + 2)) mem (Fc d wa u c (t + 2)) := by
  obtain ⟨_, a1, a2, a3, a4, a5⟩ := h
  obtain ⟨_, b1, b2, b3, b4, b5⟩ := h'
  have et : t' = t := first_uq (P := fun t => Fc d wa u c (t + 2) = Fc d wa u c (t + 1)) b1 b2 a1 a2
  subst et
  have hmm : ∀ g, g < Fc d wa u c (t' + 2) → mem' g = mem g := fun g hg => cnt_inj (b4 g hg).2.1 (a4 g hg).2.1 ((b4 g hg).2.2.trans (a4 g hg).2.2.symm)
  refine ⟨rfl, Option.some.inj (b5.symm.trans a5), ?_, ?_⟩
  · funext x
    unfold drE
    by_cases hx : x < Fc d wa u c (t' + 2)
    · rw [hmm x hx]
    · rw [decide_eq_false hx]; rfl
  · show (List.range _).flatMap _ = (List.range _).flatMap _
    rw [List.flatMap_def, List.flatMap_def]
    congr 1
    exact List.map_congr_left (fun g hg => by rw [hmm g (List.mem_range.mp hg)])
end SETS
theorem mk_sets {N what : Nat} {c : Mem → Option ((Int32 ⊕ Nat) × Mem)} {EX : Mem → Option (Int32 × Mem)} {Ms : List Ma} {w : List Nat} {ls : Ls} {LA LB : ArL} {eA e2 : Int32} (hN : 40000 < N) (hV : InV Ms w ls) (hwh : what < 3)
    (hex : ∀ m, InC m Ms w ls → ∃ m', FrS m m' ∧ ((exF what LA LB = none ∧ EX m = some (nI 0, m')) ∨ ∃ s, exF what LA LB = some s ∧ EX m = some (nI 1, m') ∧ CX m' s (8 * s.1.length) ∧ s.1.length ≤ 200 ∧ CW m' (wnW what) eA e2))
    (hc : ∀ m, InC m Ms w ls → c m = cal (EX m) (clT N)) :
    (exF what LA LB = none → ∀ m, InC m Ms w ls → CR (c m) m (.inr 1) Ms w ls) ∧ ∀ s d wa u, exF what LA LB = some s → DOf s d → wa = waf (wnW what) eA e2 s.1 → UOf d wa s.1.length u → ∃ oM, (if Ms.length < 24 then SetO s.1.length d wa u oM else oM = none) ∧ (∀ M, oM = some M → VM M ∧ MdM M) ∧ ∀ m, InC m Ms w ls → CR (c m) m (rsC Ms.length oM) (Ms ++ oM.toList) w ls := by
  have v1 := hV.1
  have hwn : wnW what < 3 := by unfold wnW; split <;> (try split) <;> omega
  constructor
  · intro hx m hC
    obtain ⟨m', f1, f2⟩ := hex m hC
    rcases f2 with ⟨_, f2⟩ | ⟨s, f2, _⟩
    · refine CR.fr (m := m') (cr_no (hC.fS f1) ?_) (fun k k1 k2 => f1.1 k (by omega))
      rw [hc m hC, cal_t f2]
      unfold clT
      rw [calx_e ns_no]
    · rw [hx] at f2; cases f2
  · intro s d wa u hx hd hwa hu
    have hok : XOK s (8 * s.1.length) := exR_fin hx
    have hdc : ∀ k x y, k < s.1.length → x < 8 → d k x = some y → y < s.1.length := fun k x y hk hx h => (hd k x hk hx).2 y h
    have hl : s.1.length ≤ 200 := hok.2.1
    have h1 := hok.1
    have go : ∀ m, InC m Ms w ls → ∃ m2, InC m2 Ms w ls ∧ (∀ k, 64 ≤ k → k < 200 → m2 k = m k) ∧ ((u 0 = false ∧ c m = calx (F_X7_keepDraft N m2) (fun r m => some (.inl r, m)) ∧ DR m2 1 0 (fun _ => false) []) ∨ (u 0 = true ∧ (∃ t, 33 ≤ Fc d wa u s.1.length (t + 1) ∧ ∀ t', t' + 2 ≤ t → Fc d wa u s.1.length (t' + 2) ≠ Fc d wa u s.1.length (t' + 1)) ∧ c m = some (.inr 1, m2)) ∨ ∃ t mem g0, C3 d wa u s.1.length t mem g0 ∧ c m = calx (F_X7_keepDraft N m2) (fun r m => some (.inl r, m)) ∧ DR m2 (Fc d wa u s.1.length (t + 2)) g0 (drE wa mem (Fc d wa u s.1.length (t + 2))) (drD d (Gs d wa u (t + 2)) mem (Fc d wa u s.1.length (t + 2)))) := by
      intro m hC
      obtain ⟨m', f1, f2⟩ := hex m hC
      rcases f2 with ⟨f2, _⟩ | ⟨s', f2, f3, f4, f5, f6⟩
      · rw [hx] at f2; cases f2
      have e : s = s' := Option.some.inj (hx.symm.trans f2)
      subst e
      have hI := hC.fS f1
      obtain ⟨m2, g1, ⟨q, q', g2⟩, g3⟩ := cl_draw hN f4 hl h1 f6 hwn hd hwa hu hI.qq
      refine ⟨m2, hI.fw g1 g2, fun k a b => by rw [g1 k (by omega) (by omega) (by omega), f1.1 k (by omega)], ?_⟩
      have hcm : c m = cal (F_X5_draw N m') fun r19 m18 => calx (F_X7_needStates N m18 r19) fun _ m21 => calx (F_X7_keepDraft N m21) fun r26 m25 => some (.inl r26, m25) := by
        rw [hc m hC, cal_t f3]
        unfold clT
        rw [calx_t ns_ok]
      rw [hcm]
      rcases g3 with ⟨u0, k1, k2⟩ | ⟨u0, k1, k2⟩ | ⟨u0, t1, mem, g0, k1, k2, k3, k4, k5, k6, k7⟩
      · refine Or.inl ⟨u0, ?_, k2⟩
        rw [cal_t k1, calx_t st_ok]
      · refine Or.inr (Or.inl ⟨u0, k1, ?_⟩)
        rw [cal_t k2, calx_e st_no]
      · refine Or.inr (Or.inr ⟨t1, mem, g0, ⟨u0, k1, k2, k3, k4, k5⟩, ?_, k7⟩)
        rw [cal_t k6, calx_t st_ok]
    cases u0 : u 0 with
    | false =>
      have hAcy : ∀ g : Nat → Nat, Acy g [] := fun g => ⟨fun _ => 0, fun q hq => (by cases hq)⟩
      obtain ⟨o, ho⟩ := made_ex 1 0 (fun _ => false) []
      have hgo : ∀ oM, (if Ms.length < 24 then Made 1 0 (fun _ => false) [] oM else oM = none) → ∀ m, InC m Ms w ls → CR (c m) m (rsC Ms.length oM) (Ms ++ oM.toList) w ls := by
        intro oM hM m hC
        obtain ⟨m2, a1, a2, a3⟩ := go m hC
        rcases a3 with ⟨_, b1, b2⟩ | ⟨b0, _⟩ | ⟨t, mem, g0, b0, _⟩
        · exact CR.fr (cr_make (m := m2) (n := 1) (st := 0) (E := fun _ => false) (D := []) (by omega) a1 v1 (by omega) (by omega) (by show 0 ≤ 25600; omega) (fun q hq => by cases hq) hM ⟨m2, b1, Off.rf, b2⟩) a2
        · rw [u0] at b0; cases b0
        · have := b0.1; rw [u0] at this; cases this
      by_cases c24 : Ms.length < 24
      · refine ⟨o, by rw [if_pos c24]; exact Or.inl ⟨u0, ho⟩, fun M hM => ?_, hgo o (by rw [if_pos c24]; exact ho)⟩
        subst hM
        exact ⟨ho.ok (by omega) (fun q hq => by cases hq) (hAcy _) (hAcy _), 1, 0, _, _, by omega, by omega, fun q hq => (by cases hq), ho⟩
      · exact ⟨none, by rw [if_neg c24], fun M hM => (by cases hM), hgo none (by rw [if_neg c24])⟩
    | true =>
      rcases c3_ex hu hdc u0 with ⟨t, mem, g0, h3⟩ | ⟨t, e1, e2, e3⟩
      · obtain ⟨_, c1, c2, c3, c4, c5⟩ := h3
        obtain ⟨k1, k2, k3⟩ := dr_af3 c3 hu hdc c4
        have hg0 : g0 < Fc d wa u s.1.length (t + 2) := gs_lt (by omega) c5
        obtain ⟨o, ho⟩ := made_ex (Fc d wa u s.1.length (t + 2)) g0 (drE wa mem (Fc d wa u s.1.length (t + 2))) (drD d (Gs d wa u (t + 2)) mem (Fc d wa u s.1.length (t + 2)))
        have hlen : (drD d (Gs d wa u (t + 2)) mem (Fc d wa u s.1.length (t + 2))).length ≤ 25600 := by
          have := fmN_len (h := fun g => drw d (Gs d wa u (t + 2)) (mem g) g 8) (c := 8) (fun g => drw_len _ _ _ _ _) (Fc d wa u s.1.length (t + 2))
          show (fmN (fun g => drw d (Gs d wa u (t + 2)) (mem g) g 8) (Fc d wa u s.1.length (t + 2))).length ≤ 25600
          omega
        have hgo : ∀ oM, (if Ms.length < 24 then Made (Fc d wa u s.1.length (t + 2)) g0 (drE wa mem (Fc d wa u s.1.length (t + 2))) (drD d (Gs d wa u (t + 2)) mem (Fc d wa u s.1.length (t + 2))) oM else oM = none) → ∀ m, InC m Ms w ls → CR (c m) m (rsC Ms.length oM) (Ms ++ oM.toList) w ls := by
          intro oM hM m hC
          obtain ⟨m2, a1, a2, a3⟩ := go m hC
          rcases a3 with ⟨b0, _⟩ | ⟨_, ⟨t1, b1, b2⟩, _⟩ | ⟨t', mem', g0', b0, b1, b2⟩
          · rw [u0] at b0; cases b0
          · exfalso
            have hle : t1 + 1 ≤ t + 2 := by
              rcases Nat.lt_or_ge t1 (t + 2) with q | q
              · omega
              · have := b2 t q; omega
            have := fc_up (d := d) (wa := wa) (u := u) (c := s.1.length) t1 (t + 2 - (t1 + 1))
            rw [show t1 + 1 + (t + 2 - (t1 + 1)) = t + 2 by omega] at this
            omega
          · obtain ⟨x1, x2, x3, x4⟩ := c3_uq (t := t) (mem := mem) ⟨u0, c1, c2, c3, c4, c5⟩ b0
            subst x1
            subst x2
            rw [x3, x4] at b2
            exact CR.fr (cr_make (m := m2) (by omega) a1 v1 hg0 (by omega) hlen k1 hM ⟨m2, b1, Off.rf, b2⟩) a2
        by_cases c24 : Ms.length < 24
        · refine ⟨o, by rw [if_pos c24]; exact Or.inr (Or.inl ⟨t, mem, g0, ⟨u0, c1, c2, c3, c4, c5⟩, ho⟩), fun M hM => ?_, hgo o (by rw [if_pos c24]; exact ho)⟩
          subst hM
          exact ⟨ho.ok hg0 k1 k2 k3, _, g0, _, _, hg0, by omega, k1, ho⟩
        · exact ⟨none, by rw [if_neg c24], fun M hM => (by cases hM), hgo none (by rw [if_neg c24])⟩
      · refine ⟨none, ?_, fun M hM => (by cases hM), fun m hC => ?_⟩
        · by_cases c24 : Ms.length < 24
          · rw [if_pos c24]; exact Or.inr (Or.inr ⟨u0, ⟨t + 1, e3⟩, rfl⟩)
          · rw [if_neg c24]
        · obtain ⟨m2, a1, a2, a3⟩ := go m hC
          rcases a3 with ⟨b0, _⟩ | ⟨_, _, b1⟩ | ⟨t', mem', g0', b0, b1, b2⟩
          · rw [u0] at b0; cases b0
          · refine CR.fr (m := m2) (cr_no (by show InC m2 (Ms ++ []) w ls; rw [List.append_nil]; exact a1) b1) a2
          · obtain ⟨_, x1, x2, x3, x4, x5⟩ := b0
            have et : t' = t := first_uq (P := fun t => Fc d wa u s.1.length (t + 2) = Fc d wa u s.1.length (t + 1)) x1 x2 e1 e2
            subst et
            omega
