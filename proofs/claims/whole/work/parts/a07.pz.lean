/-! a making, on both sides -/
theorem made_ex (n st : Nat) (E : Nat → Bool) (D : ArL) : ∃ o, Made n st E D o := by
  have hW : ∃ W, WS D E n st W := by
    classical
    refine ⟨(List.range n).filter (fun s => decide (Rc (aR D) st s ∧ ∃ e, e < n ∧ E e = true ∧ Rc (aR D) s e)), List.nodup_range.filter _, fun s => ?_⟩
    rw [List.mem_filter, List.mem_range, decide_eq_true_eq]
  obtain ⟨W, hW⟩ := hW
  by_cases h : tooBig D W
  · exact ⟨none, W, hW, Or.inl ⟨h, rfl⟩⟩
  · exact ⟨some (mdM E D W st), W, hW, Or.inr ⟨h, rfl⟩⟩
theorem rs_wrap {c : Nat} {o : Option Ma} {m : Mem} : calx (some (rsC c o, m)) (fun (r : Int32) (m : Mem) => some ((.inl r : Int32 ⊕ Nat), m)) = some (rsC c o, m) := by
  cases o <;> rfl
theorem cr_make {N n st : Nat} {m : Mem} {o : Option ((Int32 ⊕ Nat) × Mem)} {E : Nat → Bool} {D : ArL} {Ms : List Ma} {w : List Nat} {ls : Ls} {oM : Option Ma} (hN : 30000 < N) (hI : InC m Ms w ls) (hc : Ms.length ≤ 24) (hst : st < n) (hn : n ≤ 1024) (hD : D.length ≤ 25600) (hok : DOK n D) (hM : if Ms.length < 24 then Made n st E D oM else oM = none)
    (h : ∃ md, o = calx (F_X7_keepDraft N md) (fun r m => some (.inl r, m)) ∧ Off 3 16 m md ∧ DR md n st E D) : CR o m (rsC Ms.length oM) (Ms ++ oM.toList) w ls := by
  obtain ⟨md, h1, h2, h3⟩ := h
  obtain ⟨o2, m1, g1, g2, g3, g4⟩ := cls_keep hN hI h2 h3 hn hst hD hok hc
  have e : o2 = oM := by
    by_cases hl : Ms.length < 24
    · rw [if_pos hl] at g1 hM
      exact Made.uq g1 hM (fun _ => Iff.rfl) hst hst hok hok (fun _ _ _ => rfl)
    · rw [if_neg hl] at g1 hM
      rw [g1, hM]
  subst e
  exact ⟨m1, by rw [h1, g2]; exact rs_wrap, g3, g4⟩
theorem inv_add {Ms : List Ma} {w : List Nat} {ls : Ls} {oM : Option Ma} (hV : InV Ms w ls) (h : ∀ M, oM = some M → Ms.length < 24 ∧ VM M) : InV (Ms ++ oM.toList) w ls := by
  obtain ⟨v1, v2, v3⟩ := hV
  cases oM with
  | none => show InV (Ms ++ []) w ls; rw [List.append_nil]; exact ⟨v1, v2, v3⟩
  | some M =>
    obtain ⟨h1, h2⟩ := h M rfl
    refine ⟨by rw [List.length_append]; show Ms.length + 1 ≤ 24; omega, ?_, v3⟩
    intro X hX
    rcases List.mem_append.mp hX with e | e
    · exact v2 X e
    · have : X = M := List.mem_singleton.mp e
      rw [this]; exact h2
/-- one call, from one state -/
def Sim1 (κ : Nat → Int32) (c : Mem → Option ((Int32 ⊕ Nat) × Mem)) (d : Mem → Option (Int32 × Mem)) (Ms : List Ma) (w : List Nat) (ls : Ls) : Prop :=
  ∃ r t b Ms' w' ls', InV Ms' w' ls' ∧ (∀ m, InC m Ms w ls → CR (c m) m r Ms' w' ls') ∧ (∀ m, InM m Ms w ls → MoR (d m) m t b Ms' w' ls') ∧ t = kap κ r ∧ ∀ v, r = .inl v → b = v
/-- both refuse -/
theorem sim_no {κ : Nat → Int32} {c : Mem → Option ((Int32 ⊕ Nat) × Mem)} {d : Mem → Option (Int32 × Mem)} {Ms : List Ma} {w : List Nat} {ls : Ls} (hV : InV Ms w ls) (x : Nat) (hc : ∀ m, InC m Ms w ls → c m = some (.inr x, m)) (hd : ∀ m, InM m Ms w ls → d m = some (nI 0, mup m 70 0 (κ x))) : Sim1 κ c d Ms w ls :=
  ⟨.inr x, κ x, nI 0, Ms, w, ls, hV, fun m h => cr_no h (hc m h), fun m h => mor_no h (hd m h) (fun _ _ => rfl), rfl, fun v hv => by cases hv⟩
def tlJ (N : Nat) (m1 : Mem) (t : Int32) : Option (Int32 × Mem) := cal (F_X8_isFine N m1 t) fun r15 m14 => if r15 = (0 : Int32) then some ((0 : Int32), m14) else cal (F_X8_keeps N m14) fun r18 m17 => some (r18, m17)
theorem sim_makeJ {κ : Nat → Int32} {c : Mem → Option ((Int32 ⊕ Nat) × Mem)} {d : Mem → Option (Int32 × Mem)} {Ms : List Ma} {w : List Nat} {ls : Ls} {N n st : Nat} {E E' : Nat → Bool} {D D' : ArL} (hN : 40000 < N) (hV : InV Ms w ls) (hκ : κ 1 = nI 2)
    (hst : st < n) (hn : n ≤ 1024) (hD : D.length ≤ 25600) (hok : DOK n D) (hD' : D'.length ≤ 36000) (hok' : DOK 1024 D') (hDD : ∀ q, q ∈ D ↔ q ∈ D') (hE : ∀ s, s < n → E s = E' s) (hu : Acy upr D) (hl : Acy lwr D)
    (hc : ∀ m, InC m Ms w ls → ∃ md, c m = calx (F_X7_keepDraft N md) (fun r m => some (.inl r, m)) ∧ Off 3 16 m md ∧ DR md n st E D)
    (hd : ∀ m, InM m Ms w ls → Ms.length < 24 → ∃ mw, MW mw E' D' ∧ Fx 80 83 [14] m mw ∧ ∀ b m1, F_X8_trims N mw (nI st) = some (bI b, m1) → d m = tlJ N m1 (if b = true then nI 0 else nI 2))
    (hd2 : ∀ m, InM m Ms w ls → ¬ Ms.length < 24 → d m = some (nI 0, mup m 70 0 (nI 2))) : Sim1 κ c d Ms w ls := by
  have v1 := hV.1
  by_cases hl24 : Ms.length < 24
  · obtain ⟨oM, hoM⟩ := made_ex n st E D
    have hV2 : InV (Ms ++ oM.toList) w ls := inv_add hV (fun M e => ⟨hl24, by subst e; exact hoM.ok hst hok hu hl⟩)
    refine ⟨rsC Ms.length oM, kap κ (rsC Ms.length oM), match oM with | none => nI 0 | some _ => nI Ms.length, Ms ++ oM.toList, w, ls, hV2, fun m hC => cr_make (by omega) hC v1 hst hn hD hok (by rw [if_pos hl24]; exact hoM) (hc m hC), fun m hM => ?_, rfl, ?_⟩
    · obtain ⟨mw, h1, h2, h3⟩ := hd m hM hl24
      obtain ⟨o2, m1, g1, g2, g3, g4⟩ := mod_trims (st := st) hN h1 hD' hok' (by omega)
      have e : o2 = oM := Made.uq g1 hoM (fun q => (hDD q).symm) (by omega) hst hok' hok (fun s _ hs => (hE s hs).symm)
      subst e
      have hM1 : InM m1 Ms w ls := (hM.fx h2 (by omega) (by omega) (by simp) (by simp) (by simp)).fx g3 (by omega) (by omega) (by simp) (by simp) (by simp)
      have hfr : ∀ k, (k < 70 ∨ 108 ≤ k) → m1 k = m k := fun k hk => by rw [g3.1 k (by omega) (by omega), h2.1 k (by omega) (by omega)]
      have hd3 := h3 _ _ g2
      cases o2 with
      | none =>
        refine ⟨mup m1 70 0 (nI 2), ?_, ?_, ?_, fun k hk => by rw [mup_r (by omega), hfr k hk]⟩
        · rw [hd3]
          show tlJ N m1 (nI 2) = _
          unfold tlJ
          rw [cal_t (fine_x (by omega) (by omega))]
          simp (disch := omega) only [zi_t, zi_f, bnd_t, zg_in, zx, nI_ltI, nI_leI, nI_eq, nI_add, pk_mul, pk_sub, mup_s, mup_c, mup_j, mrw_c, if_pos, if_neg, zm_1, zm_2, zm_3, zm_4, zm_5, zm_6, zm_7, zm_8, zm_9, zf_0, zf_1, zf_2, zf_3, zf_4, zf_5, zf_6, zf_7, zf_8, zf_9, zf_10, zf_14, zf_15, zf_16, zf_18, zf_19, zf_20, zf_24, zf_30, zf_31, zf_32, zf_33, zf_99, zf_100, zf_160, zf_200, zf_287, zf_288, zf_300, zf_1000, zf_1023, zf_1024, zf_1600, zf_3840, zf_25600, zf_36000, zf_1000000, zf_1000000000, zf_2000000000, zf_11560, za_1, za_2, za_4, za_5, za_6, za_7, za_8, za_9, za_10, za_11, za_12, za_14, za_15, za_22, za_23, za_25, za_26, za_27, za_28, za_29, za_30, za_31, za_32, za_33, za_34, za_35, za_41, za_42, za_43, za_44, za_45, za_46, za_47, za_48, za_49, za_61, za_62, za_63, za_64, za_65, za_71, za_72, za_73, za_74, za_75, za_76, za_77, za_78, za_79, za_80, za_81, za_82, za_83, za_84, za_85, za_86, za_87, za_88, za_89, za_90, za_91, za_92, za_93, za_94, za_95, za_96, za_97, za_98, za_99, za_100, za_101, za_102, za_103, za_104, za_105, za_106, za_107, za_108]
        · rw [mup_s]
          exact hκ.symm
        · show InM _ (Ms ++ []) w ls
          rw [List.append_nil]
          exact hM1.up0 _
      | some M =>
        obtain ⟨m2, k1, k2, k3, k4⟩ := mod_keeps (m := mup m1 70 0 (nI 0)) hN (hM1.up0 (nI 0)) (fun X hX => (hV.2.1 X hX).2.2.1) ((g4 M rfl).sl (nI 0)) hok' (by omega) hl24
        refine ⟨m2, ?_, ?_, k2, fun k hk => by rw [k4 k hk, mup_r (by omega), hfr k hk]⟩
        · rw [hd3]
          show tlJ N m1 (nI 0) = _
          unfold tlJ
          rw [cal_t fine_0]
          simp (disch := omega) only [zi_t, zi_f, bnd_t, zg_in, zx, nI_ltI, nI_leI, nI_eq, nI_add, pk_mul, pk_sub, mup_s, mup_c, mup_j, mrw_c, if_pos, if_neg, zm_1, zm_2, zm_3, zm_4, zm_5, zm_6, zm_7, zm_8, zm_9, zf_0, zf_1, zf_2, zf_3, zf_4, zf_5, zf_6, zf_7, zf_8, zf_9, zf_10, zf_14, zf_15, zf_16, zf_18, zf_19, zf_20, zf_24, zf_30, zf_31, zf_32, zf_33, zf_99, zf_100, zf_160, zf_200, zf_287, zf_288, zf_300, zf_1000, zf_1023, zf_1024, zf_1600, zf_3840, zf_25600, zf_36000, zf_1000000, zf_1000000000, zf_2000000000, zf_11560, za_1, za_2, za_4, za_5, za_6, za_7, za_8, za_9, za_10, za_11, za_12, za_14, za_15, za_22, za_23, za_25, za_26, za_27, za_28, za_29, za_30, za_31, za_32, za_33, za_34, za_35, za_41, za_42, za_43, za_44, za_45, za_46, za_47, za_48, za_49, za_61, za_62, za_63, za_64, za_65, za_71, za_72, za_73, za_74, za_75, za_76, za_77, za_78, za_79, za_80, za_81, za_82, za_83, za_84, za_85, za_86, za_87, za_88, za_89, za_90, za_91, za_92, za_93, za_94, za_95, za_96, za_97, za_98, za_99, za_100, za_101, za_102, za_103, za_104, za_105, za_106, za_107, za_108]
          rw [cal_t k1]
        · rw [k3, mup_s]; rfl
    · intro v hv
      cases oM with
      | none => cases hv
      | some M => injection hv
  · refine ⟨rsC Ms.length none, nI 2, nI 0, Ms ++ (none : Option Ma).toList, w, ls, inv_add hV (fun M e => by cases e), fun m hC => cr_make (by omega) hC v1 hst hn hD hok (by rw [if_neg hl24]) (hc m hC), fun m hM => ?_, hκ.symm, fun v hv => by cases hv⟩
    show MoR _ _ _ _ (Ms ++ []) w ls
    rw [List.append_nil]
    exact mor_no hM (hd2 m hM hl24) (fun _ _ => rfl)
theorem sim_makeP {κ : Nat → Int32} {c : Mem → Option ((Int32 ⊕ Nat) × Mem)} {d : Mem → Option (Int32 × Mem)} {Ms : List Ma} {w : List Nat} {ls : Ls} {N n st : Nat} {E E' : Nat → Bool} {D D' : ArL} (hN : 40000 < N) (hV : InV Ms w ls)
    (hst : st < n) (hn : n ≤ 32) (hD : D.length ≤ 160) (hok : DOK n D) (hD' : D'.length ≤ 36000) (hok' : DOK 1024 D') (hDD : ∀ q, q ∈ D ↔ q ∈ D') (hE : ∀ s, s < n → E s = E' s) (hu : Acy upr D) (hl : Acy lwr D)
    (hc : ∀ m, InC m Ms w ls → ∃ md, c m = calx (F_X7_keepDraft N md) (fun r m => some (.inl r, m)) ∧ Off 3 16 m md ∧ DR md n st E D)
    (hd : ∀ m, InM m Ms w ls → Ms.length < 24 → ∃ mw, MW mw E' D' ∧ Fx 80 83 [14] (mup m 70 0 (nI 0)) mw ∧ ∀ m1, F_X8_trims N mw (nI st) = some (nI 1, m1) → d m = cal (F_X8_keeps N m1) (fun r m => some (r, m)))
    (hd2 : ∀ m, InM m Ms w ls → ¬ Ms.length < 24 → d m = some (nI 0, mup m 70 0 (κ 1))) : Sim1 κ c d Ms w ls := by
  have v1 := hV.1
  by_cases hl24 : Ms.length < 24
  · obtain ⟨oM, hoM⟩ := made_ex n st E D
    cases oM with
    | none => exact absurd hoM (fun h => made_small hn hD h)
    | some M =>
    have hV2 : InV (Ms ++ [M]) w ls := inv_add (oM := some M) hV (fun X e => ⟨hl24, by cases e; exact hoM.ok hst hok hu hl⟩)
    refine ⟨rsC Ms.length (some M), nI 0, nI Ms.length, Ms ++ [M], w, ls, hV2, fun m hC => cr_make (oM := some M) (by omega) hC v1 hst (by omega) (by omega) hok (by rw [if_pos hl24]; exact hoM) (hc m hC), fun m hM => ?_, rfl, fun v hv => by injection hv⟩
    obtain ⟨mw, h1, h2, h3⟩ := hd m hM hl24
    obtain ⟨o2, m1, g1, g2, g3, g4⟩ := mod_trims (st := st) hN h1 hD' hok' (by omega)
    have e : o2 = some M := Made.uq g1 hoM (fun q => (hDD q).symm) (by omega) hst hok' hok (fun s _ hs => (hE s hs).symm)
    subst e
    have hM1 : InM m1 Ms w ls := ((hM.up0 (nI 0)).fx h2 (by omega) (by omega) (by simp) (by simp) (by simp)).fx g3 (by omega) (by omega) (by simp) (by simp) (by simp)
    have hfr : ∀ k, (k < 70 ∨ 108 ≤ k) → m1 k = m k := fun k hk => by rw [g3.1 k (by omega) (by omega), h2.1 k (by omega) (by omega), mup_r (by omega)]
    obtain ⟨m2, k1, k2, k3, k4⟩ := mod_keeps hN hM1 (fun X hX => (hV.2.1 X hX).2.2.1) (g4 M rfl) hok' (by omega) hl24
    refine ⟨m2, ?_, ?_, k2, fun k hk => by rw [k4 k hk, hfr k hk]⟩
    · rw [h3 m1 g2, cal_t k1]
    · rw [k3, g3.2 0 (by simp), h2.2 0 (by simp), mup_s]
  · refine ⟨rsC Ms.length none, κ 1, nI 0, Ms ++ (none : Option Ma).toList, w, ls, inv_add hV (fun M e => by cases e), fun m hC => cr_make (by omega) hC v1 hst (by omega) (by omega) hok (by rw [if_neg hl24]) (hc m hC), fun m hM => ?_, rfl, fun v hv => by cases hv⟩
    show MoR _ _ _ _ (Ms ++ []) w ls
    rw [List.append_nil]
    exact mor_no hM (hd2 m hM hl24) (fun _ _ => rfl)
/-! arcs of drafts are arcs, and of empty letters there is no way back -/
def AF (n : Nat) (ru rl : Nat → Nat) (q : Nat × Nat) : Prop := ∃ s u l t c, q = (pkA s u l t, c) ∧ s < n ∧ u ≤ 8 ∧ l ≤ 8 ∧ t < n ∧ c ≤ 1000000 ∧ (u = 8 → ru t < ru s) ∧ (l = 8 → rl t < rl s)
theorem AF.all {n : Nat} {ru rl : Nat → Nat} {D : ArL} (hn : n ≤ 1024) (h : ∀ q, q ∈ D → AF n ru rl q) : DOK n D ∧ Acy upr D ∧ Acy lwr D := by
  refine ⟨fun q hq => ?_, ⟨ru, fun q hq h8 => ?_⟩, ⟨rl, fun q hq h8 => ?_⟩⟩
  · obtain ⟨s, u, l, t, c, rfl, h1, h2, h3, h4, h5, _⟩ := h q hq
    exact AOK.mk hn h1 h2 h3 h4 h5
  · obtain ⟨s, u, l, t, c, rfl, h1, h2, h3, h4, h5, h6, h7⟩ := h q hq
    have e1 : fr (pkA s u l t) = s := pkA_from (by omega) (by omega) (by omega)
    have e2 : too (pkA s u l t) = t := pkA_to (by omega)
    have e3 : upr (pkA s u l t) = u := pkA_upper (by omega) (by omega) (by omega)
    show ru (too (pkA s u l t)) < ru (fr (pkA s u l t))
    rw [e1, e2]
    exact h6 (e3.symm.trans h8)
  · obtain ⟨s, u, l, t, c, rfl, h1, h2, h3, h4, h5, h6, h7⟩ := h q hq
    have e1 : fr (pkA s u l t) = s := pkA_from (by omega) (by omega) (by omega)
    have e2 : too (pkA s u l t) = t := pkA_to (by omega)
    have e3 : lwr (pkA s u l t) = l := pkA_lower (by omega) (by omega)
    show rl (too (pkA s u l t)) < rl (fr (pkA s u l t))
    rw [e1, e2]
    exact h7 (e3.symm.trans h8)
theorem DOK.wd {n n' : Nat} {D : ArL} (h : DOK n D) (hn : n ≤ n') : DOK n' D := fun q hq => by
  obtain ⟨a, b, c, d⟩ := h q hq
  exact ⟨a, Nat.lt_of_lt_of_le b hn, Nat.lt_of_lt_of_le c hn, d⟩
theorem mw_end {m : Mem} {E : Nat → Bool} {D : ArL} (h : MW m E D) (s : Nat) (b : Bool) : MW (mup m 82 s (bI b)) (fun x => if x = s then b else E x) D := by
  refine ⟨by rw [mup_c (by omega)]; exact h.1, h.2.1.cg (mup_r (by omega)) (mup_r (by omega)), fun x hx => ?_⟩
  show mup m 82 s (bI b) 82 x = bI (if x = s then b else E x)
  rw [mup_if]
  by_cases e : x = s
  · rw [if_pos e, if_pos e]
  · rw [if_neg e, if_neg e]
    exact h.2.2 x hx
def bA (f : Nat → Nat × Nat) (i : Nat) : ArL := (List.range i).map f
theorem bA_s (f : Nat → Nat × Nat) (i : Nat) : bA f (i + 1) = bA f i ++ [f i] := by
  unfold bA
  rw [List.range_succ, List.map_append]; rfl
theorem bA_len (f : Nat → Nat × Nat) (i : Nat) : (bA f i).length = i := by
  unfold bA
  rw [List.length_map, List.length_range]
theorem bA_mem {f : Nat → Nat × Nat} {i : Nat} {q : Nat × Nat} (h : q ∈ bA f i) : ∃ k, k < i ∧ f k = q := by
  obtain ⟨k, hk, e⟩ := List.mem_map.mp h
  exact ⟨k, List.mem_range.mp hk, e⟩
/-! pair -/
theorem sim_pair {N : Nat} (hN : 40000 < N) (x y z : Int32) (Ms : List Ma) (w : List Nat) (ls : Ls) (hV : InV Ms w ls) : Sim1 (fun e => nI (e + 1)) (fun m => F_X7_pair N m x y z) (fun m => F_X8_pair N m x y z) Ms w ls := by
  have v1 := hV.1
  rcases i32_cases x 9 with ⟨u, hu, rfl⟩ | hx
  · rcases i32_cases y 9 with ⟨l, hl, rfl⟩ | hy
    · rcases i32_cases z 101 with ⟨c, hc, rfl⟩ | hz
      · have haf := AF.all (n := 2) (ru := fun s => 1 - s) (rl := fun s => 1 - s) (D := [(pkA 0 u l 1, c)]) (by omega) (fun q hq => by
          rw [List.mem_singleton] at hq
          exact ⟨0, u, l, 1, c, hq, by omega, by omega, by omega, by omega, by omega, fun _ => by show 1 - 1 < 1 - 0; omega, fun _ => by show 1 - 1 < 1 - 0; omega⟩)
        refine sim_makeP (n := 2) (st := 0) (E := fun x => false || decide (x = 1)) (E' := fun x => if x = 1 then true else false) (D := [(pkA 0 u l 1, c)]) (D' := [(pkA 0 u l 1, c)]) hN hV (by omega) (by omega) (by simp) haf.1 (by simp) (haf.1.wd (by omega)) (fun _ => Iff.rfl) (fun s _ => by
          by_cases h : s = 1
          · rw [if_pos h, decide_eq_true h]; rfl
          · rw [if_neg h, decide_eq_false h]; rfl) haf.2.1 haf.2.2 ?_ ?_ ?_
        · intro m hC
          obtain ⟨m2, a1, a2, a3⟩ := dr_begin' (N := N) (n := 2) (st := 0) (m := m) (by omega) (by omega)
          obtain ⟨m4, b1, b2, b3⟩ := dr_addArc (N := N) (s := 0) (u := u) (l := l) (t := 1) (c := c) a2 (by omega) (by show 0 < 25600; omega) (by omega) (by omega) (by omega) (by omega)
          obtain ⟨m6, c1, c2, c3⟩ := dr_addEnd (N := N) (s := 1) b2 (by omega) (by omega)
          refine ⟨m6, ?_, ((a3.tr b3).tr c3).wd (by omega) (by omega), c2⟩
          show F_X7_pair N m _ _ _ = _
          unfold F_X7_pair
          simp (disch := omega) only [zi_t, zi_f, bnd_t, zg_in, zx, nI_ltI, nI_leI, nI_eq, nI_add, pk_mul, pk_sub, mup_s, mup_c, mup_j, mrw_c, if_pos, if_neg, zm_1, zm_2, zm_3, zm_4, zm_5, zm_6, zm_7, zm_8, zm_9, zf_0, zf_1, zf_2, zf_3, zf_4, zf_5, zf_6, zf_7, zf_8, zf_9, zf_10, zf_14, zf_15, zf_16, zf_18, zf_19, zf_20, zf_24, zf_30, zf_31, zf_32, zf_33, zf_99, zf_100, zf_160, zf_200, zf_287, zf_288, zf_300, zf_1000, zf_1023, zf_1024, zf_1600, zf_3840, zf_25600, zf_36000, zf_1000000, zf_1000000000, zf_2000000000, zf_11560, za_1, za_2, za_4, za_5, za_6, za_7, za_8, za_9, za_10, za_11, za_12, za_14, za_15, za_22, za_23, za_25, za_26, za_27, za_28, za_29, za_30, za_31, za_32, za_33, za_34, za_35, za_41, za_42, za_43, za_44, za_45, za_46, za_47, za_48, za_49, za_61, za_62, za_63, za_64, za_65, za_71, za_72, za_73, za_74, za_75, za_76, za_77, za_78, za_79, za_80, za_81, za_82, za_83, za_84, za_85, za_86, za_87, za_88, za_89, za_90, za_91, za_92, za_93, za_94, za_95, za_96, za_97, za_98, za_99, za_100, za_101, za_102, za_103, za_104, za_105, za_106, za_107, za_108, loe_ok]
          rw [calv_t a1, calv_t b1, calv_t c1]
        · intro m hM hl24
          obtain ⟨m2, a1, a2, a3⟩ := mw_begins (N := N) (m := mup m 70 0 (nI 0)) (by omega)
          obtain ⟨m4, b1, b2, b3⟩ := mw_adds (N := N) (s := 0) (u := u) (l := l) (t := 1) (c := c) a2 (by show 0 < 36000; omega) (by omega) (by omega) (by omega) (by omega)
          refine ⟨mup m4 82 1 (bI true), mw_end b2 1 true, ((a3.wd (by omega) (by omega) (by simp)).tr (b3.wd (by omega) (by omega) (by simp))).up (by omega) (by omega) (by omega), fun m1 hm1 => ?_⟩
          show F_X8_pair N m _ _ _ = _
          unfold F_X8_pair
          simp (disch := omega) only [zi_t, zi_f, bnd_t, zg_in, zx, nI_ltI, nI_leI, nI_eq, nI_add, pk_mul, pk_sub, mup_s, mup_c, mup_j, mrw_c, if_pos, if_neg, zm_1, zm_2, zm_3, zm_4, zm_5, zm_6, zm_7, zm_8, zm_9, zf_0, zf_1, zf_2, zf_3, zf_4, zf_5, zf_6, zf_7, zf_8, zf_9, zf_10, zf_14, zf_15, zf_16, zf_18, zf_19, zf_20, zf_24, zf_30, zf_31, zf_32, zf_33, zf_99, zf_100, zf_160, zf_200, zf_287, zf_288, zf_300, zf_1000, zf_1023, zf_1024, zf_1600, zf_3840, zf_25600, zf_36000, zf_1000000, zf_1000000000, zf_2000000000, zf_11560, za_1, za_2, za_4, za_5, za_6, za_7, za_8, za_9, za_10, za_11, za_12, za_14, za_15, za_22, za_23, za_25, za_26, za_27, za_28, za_29, za_30, za_31, za_32, za_33, za_34, za_35, za_41, za_42, za_43, za_44, za_45, za_46, za_47, za_48, za_49, za_61, za_62, za_63, za_64, za_65, za_71, za_72, za_73, za_74, za_75, za_76, za_77, za_78, za_79, za_80, za_81, za_82, za_83, za_84, za_85, za_86, za_87, za_88, za_89, za_90, za_91, za_92, za_93, za_94, za_95, za_96, za_97, za_98, za_99, za_100, za_101, za_102, za_103, za_104, za_105, za_106, za_107, za_108, isIn_ok]
          unfold B_X8_pair_35
          simp (disch := omega) only [zi_t, zi_f, bnd_t, zg_in, zx, nI_ltI, nI_leI, nI_eq, nI_add, pk_mul, pk_sub, mup_s, mup_c, mup_j, mrw_c, if_pos, if_neg, zm_1, zm_2, zm_3, zm_4, zm_5, zm_6, zm_7, zm_8, zm_9, zf_0, zf_1, zf_2, zf_3, zf_4, zf_5, zf_6, zf_7, zf_8, zf_9, zf_10, zf_14, zf_15, zf_16, zf_18, zf_19, zf_20, zf_24, zf_30, zf_31, zf_32, zf_33, zf_99, zf_100, zf_160, zf_200, zf_287, zf_288, zf_300, zf_1000, zf_1023, zf_1024, zf_1600, zf_3840, zf_25600, zf_36000, zf_1000000, zf_1000000000, zf_2000000000, zf_11560, za_1, za_2, za_4, za_5, za_6, za_7, za_8, za_9, za_10, za_11, za_12, za_14, za_15, za_22, za_23, za_25, za_26, za_27, za_28, za_29, za_30, za_31, za_32, za_33, za_34, za_35, za_41, za_42, za_43, za_44, za_45, za_46, za_47, za_48, za_49, za_61, za_62, za_63, za_64, za_65, za_71, za_72, za_73, za_74, za_75, za_76, za_77, za_78, za_79, za_80, za_81, za_82, za_83, za_84, za_85, za_86, za_87, za_88, za_89, za_90, za_91, za_92, za_93, za_94, za_95, za_96, za_97, za_98, za_99, za_100, za_101, za_102, za_103, za_104, za_105, za_106, za_107, za_108]
          rw [cal_t (ist_y hM hl24)]
          simp (disch := omega) only [zi_t, zi_f, bnd_t, zg_in, zx, nI_ltI, nI_leI, nI_eq, nI_add, pk_mul, pk_sub, mup_s, mup_c, mup_j, mrw_c, if_pos, if_neg, zm_1, zm_2, zm_3, zm_4, zm_5, zm_6, zm_7, zm_8, zm_9, zf_0, zf_1, zf_2, zf_3, zf_4, zf_5, zf_6, zf_7, zf_8, zf_9, zf_10, zf_14, zf_15, zf_16, zf_18, zf_19, zf_20, zf_24, zf_30, zf_31, zf_32, zf_33, zf_99, zf_100, zf_160, zf_200, zf_287, zf_288, zf_300, zf_1000, zf_1023, zf_1024, zf_1600, zf_3840, zf_25600, zf_36000, zf_1000000, zf_1000000000, zf_2000000000, zf_11560, za_1, za_2, za_4, za_5, za_6, za_7, za_8, za_9, za_10, za_11, za_12, za_14, za_15, za_22, za_23, za_25, za_26, za_27, za_28, za_29, za_30, za_31, za_32, za_33, za_34, za_35, za_41, za_42, za_43, za_44, za_45, za_46, za_47, za_48, za_49, za_61, za_62, za_63, za_64, za_65, za_71, za_72, za_73, za_74, za_75, za_76, za_77, za_78, za_79, za_80, za_81, za_82, za_83, za_84, za_85, za_86, za_87, za_88, za_89, za_90, za_91, za_92, za_93, za_94, za_95, za_96, za_97, za_98, za_99, za_100, za_101, za_102, za_103, za_104, za_105, za_106, za_107, za_108]
          unfold B_X8_pair_59
          rw [cal_t fine_0]
          simp (disch := omega) only [zi_t, zi_f, bnd_t, zg_in, zx, nI_ltI, nI_leI, nI_eq, nI_add, pk_mul, pk_sub, mup_s, mup_c, mup_j, mrw_c, if_pos, if_neg, zm_1, zm_2, zm_3, zm_4, zm_5, zm_6, zm_7, zm_8, zm_9, zf_0, zf_1, zf_2, zf_3, zf_4, zf_5, zf_6, zf_7, zf_8, zf_9, zf_10, zf_14, zf_15, zf_16, zf_18, zf_19, zf_20, zf_24, zf_30, zf_31, zf_32, zf_33, zf_99, zf_100, zf_160, zf_200, zf_287, zf_288, zf_300, zf_1000, zf_1023, zf_1024, zf_1600, zf_3840, zf_25600, zf_36000, zf_1000000, zf_1000000000, zf_2000000000, zf_11560, za_1, za_2, za_4, za_5, za_6, za_7, za_8, za_9, za_10, za_11, za_12, za_14, za_15, za_22, za_23, za_25, za_26, za_27, za_28, za_29, za_30, za_31, za_32, za_33, za_34, za_35, za_41, za_42, za_43, za_44, za_45, za_46, za_47, za_48, za_49, za_61, za_62, za_63, za_64, za_65, za_71, za_72, za_73, za_74, za_75, za_76, za_77, za_78, za_79, za_80, za_81, za_82, za_83, za_84, za_85, za_86, za_87, za_88, za_89, za_90, za_91, za_92, za_93, za_94, za_95, za_96, za_97, za_98, za_99, za_100, za_101, za_102, za_103, za_104, za_105, za_106, za_107, za_108]
          rw [calv_t a1, calv_t b1]
          rw [← bI_t, cal_t hm1]
          simp (disch := omega) only [zi_t, zi_f, bnd_t, zg_in, zx, nI_ltI, nI_leI, nI_eq, nI_add, pk_mul, pk_sub, mup_s, mup_c, mup_j, mrw_c, if_pos, if_neg, zm_1, zm_2, zm_3, zm_4, zm_5, zm_6, zm_7, zm_8, zm_9, zf_0, zf_1, zf_2, zf_3, zf_4, zf_5, zf_6, zf_7, zf_8, zf_9, zf_10, zf_14, zf_15, zf_16, zf_18, zf_19, zf_20, zf_24, zf_30, zf_31, zf_32, zf_33, zf_99, zf_100, zf_160, zf_200, zf_287, zf_288, zf_300, zf_1000, zf_1023, zf_1024, zf_1600, zf_3840, zf_25600, zf_36000, zf_1000000, zf_1000000000, zf_2000000000, zf_11560, za_1, za_2, za_4, za_5, za_6, za_7, za_8, za_9, za_10, za_11, za_12, za_14, za_15, za_22, za_23, za_25, za_26, za_27, za_28, za_29, za_30, za_31, za_32, za_33, za_34, za_35, za_41, za_42, za_43, za_44, za_45, za_46, za_47, za_48, za_49, za_61, za_62, za_63, za_64, za_65, za_71, za_72, za_73, za_74, za_75, za_76, za_77, za_78, za_79, za_80, za_81, za_82, za_83, za_84, za_85, za_86, za_87, za_88, za_89, za_90, za_91, za_92, za_93, za_94, za_95, za_96, za_97, za_98, za_99, za_100, za_101, za_102, za_103, za_104, za_105, za_106, za_107, za_108]
          rfl
        · intro m hM hl24
          show F_X8_pair N m _ _ _ = _
          unfold F_X8_pair
          simp (disch := omega) only [zi_t, zi_f, bnd_t, zg_in, zx, nI_ltI, nI_leI, nI_eq, nI_add, pk_mul, pk_sub, mup_s, mup_c, mup_j, mrw_c, if_pos, if_neg, zm_1, zm_2, zm_3, zm_4, zm_5, zm_6, zm_7, zm_8, zm_9, zf_0, zf_1, zf_2, zf_3, zf_4, zf_5, zf_6, zf_7, zf_8, zf_9, zf_10, zf_14, zf_15, zf_16, zf_18, zf_19, zf_20, zf_24, zf_30, zf_31, zf_32, zf_33, zf_99, zf_100, zf_160, zf_200, zf_287, zf_288, zf_300, zf_1000, zf_1023, zf_1024, zf_1600, zf_3840, zf_25600, zf_36000, zf_1000000, zf_1000000000, zf_2000000000, zf_11560, za_1, za_2, za_4, za_5, za_6, za_7, za_8, za_9, za_10, za_11, za_12, za_14, za_15, za_22, za_23, za_25, za_26, za_27, za_28, za_29, za_30, za_31, za_32, za_33, za_34, za_35, za_41, za_42, za_43, za_44, za_45, za_46, za_47, za_48, za_49, za_61, za_62, za_63, za_64, za_65, za_71, za_72, za_73, za_74, za_75, za_76, za_77, za_78, za_79, za_80, za_81, za_82, za_83, za_84, za_85, za_86, za_87, za_88, za_89, za_90, za_91, za_92, za_93, za_94, za_95, za_96, za_97, za_98, za_99, za_100, za_101, za_102, za_103, za_104, za_105, za_106, za_107, za_108, isIn_ok]
          unfold B_X8_pair_35
          simp (disch := omega) only [zi_t, zi_f, bnd_t, zg_in, zx, nI_ltI, nI_leI, nI_eq, nI_add, pk_mul, pk_sub, mup_s, mup_c, mup_j, mrw_c, if_pos, if_neg, zm_1, zm_2, zm_3, zm_4, zm_5, zm_6, zm_7, zm_8, zm_9, zf_0, zf_1, zf_2, zf_3, zf_4, zf_5, zf_6, zf_7, zf_8, zf_9, zf_10, zf_14, zf_15, zf_16, zf_18, zf_19, zf_20, zf_24, zf_30, zf_31, zf_32, zf_33, zf_99, zf_100, zf_160, zf_200, zf_287, zf_288, zf_300, zf_1000, zf_1023, zf_1024, zf_1600, zf_3840, zf_25600, zf_36000, zf_1000000, zf_1000000000, zf_2000000000, zf_11560, za_1, za_2, za_4, za_5, za_6, za_7, za_8, za_9, za_10, za_11, za_12, za_14, za_15, za_22, za_23, za_25, za_26, za_27, za_28, za_29, za_30, za_31, za_32, za_33, za_34, za_35, za_41, za_42, za_43, za_44, za_45, za_46, za_47, za_48, za_49, za_61, za_62, za_63, za_64, za_65, za_71, za_72, za_73, za_74, za_75, za_76, za_77, za_78, za_79, za_80, za_81, za_82, za_83, za_84, za_85, za_86, za_87, za_88, za_89, za_90, za_91, za_92, za_93, za_94, za_95, za_96, za_97, za_98, za_99, za_100, za_101, za_102, za_103, za_104, za_105, za_106, za_107, za_108]
          rw [cal_t (ist_n hM v1 hl24)]
          simp (disch := omega) only [zi_t, zi_f, bnd_t, zg_in, zx, nI_ltI, nI_leI, nI_eq, nI_add, pk_mul, pk_sub, mup_s, mup_c, mup_j, mrw_c, if_pos, if_neg, zm_1, zm_2, zm_3, zm_4, zm_5, zm_6, zm_7, zm_8, zm_9, zf_0, zf_1, zf_2, zf_3, zf_4, zf_5, zf_6, zf_7, zf_8, zf_9, zf_10, zf_14, zf_15, zf_16, zf_18, zf_19, zf_20, zf_24, zf_30, zf_31, zf_32, zf_33, zf_99, zf_100, zf_160, zf_200, zf_287, zf_288, zf_300, zf_1000, zf_1023, zf_1024, zf_1600, zf_3840, zf_25600, zf_36000, zf_1000000, zf_1000000000, zf_2000000000, zf_11560, za_1, za_2, za_4, za_5, za_6, za_7, za_8, za_9, za_10, za_11, za_12, za_14, za_15, za_22, za_23, za_25, za_26, za_27, za_28, za_29, za_30, za_31, za_32, za_33, za_34, za_35, za_41, za_42, za_43, za_44, za_45, za_46, za_47, za_48, za_49, za_61, za_62, za_63, za_64, za_65, za_71, za_72, za_73, za_74, za_75, za_76, za_77, za_78, za_79, za_80, za_81, za_82, za_83, za_84, za_85, za_86, za_87, za_88, za_89, za_90, za_91, za_92, za_93, za_94, za_95, za_96, za_97, za_98, za_99, za_100, za_101, za_102, za_103, za_104, za_105, za_106, za_107, za_108]
          unfold B_X8_pair_59
          rw [cal_t (fine_x (by omega) (by omega))]
          simp (disch := omega) only [zi_t, zi_f, bnd_t, zg_in, zx, nI_ltI, nI_leI, nI_eq, nI_add, pk_mul, pk_sub, mup_s, mup_c, mup_j, mrw_c, if_pos, if_neg, zm_1, zm_2, zm_3, zm_4, zm_5, zm_6, zm_7, zm_8, zm_9, zf_0, zf_1, zf_2, zf_3, zf_4, zf_5, zf_6, zf_7, zf_8, zf_9, zf_10, zf_14, zf_15, zf_16, zf_18, zf_19, zf_20, zf_24, zf_30, zf_31, zf_32, zf_33, zf_99, zf_100, zf_160, zf_200, zf_287, zf_288, zf_300, zf_1000, zf_1023, zf_1024, zf_1600, zf_3840, zf_25600, zf_36000, zf_1000000, zf_1000000000, zf_2000000000, zf_11560, za_1, za_2, za_4, za_5, za_6, za_7, za_8, za_9, za_10, za_11, za_12, za_14, za_15, za_22, za_23, za_25, za_26, za_27, za_28, za_29, za_30, za_31, za_32, za_33, za_34, za_35, za_41, za_42, za_43, za_44, za_45, za_46, za_47, za_48, za_49, za_61, za_62, za_63, za_64, za_65, za_71, za_72, za_73, za_74, za_75, za_76, za_77, za_78, za_79, za_80, za_81, za_82, za_83, za_84, za_85, za_86, za_87, za_88, za_89, za_90, za_91, za_92, za_93, za_94, za_95, za_96, za_97, za_98, za_99, za_100, za_101, za_102, za_103, za_104, za_105, za_106, za_107, za_108]
      · refine sim_no hV 0 (fun m _ => ?_) (fun m _ => ?_)
        · show F_X7_pair N m _ _ _ = _
          unfold F_X7_pair B_X7_pair_34
          by_cases h0 : z < nI 0
          · simp (disch := omega) only [zi_t, zi_f, bnd_t, zg_in, zx, nI_ltI, nI_leI, nI_eq, nI_add, pk_mul, pk_sub, mup_s, mup_c, mup_j, mrw_c, if_pos, if_neg, zm_1, zm_2, zm_3, zm_4, zm_5, zm_6, zm_7, zm_8, zm_9, zf_0, zf_1, zf_2, zf_3, zf_4, zf_5, zf_6, zf_7, zf_8, zf_9, zf_10, zf_14, zf_15, zf_16, zf_18, zf_19, zf_20, zf_24, zf_30, zf_31, zf_32, zf_33, zf_99, zf_100, zf_160, zf_200, zf_287, zf_288, zf_300, zf_1000, zf_1023, zf_1024, zf_1600, zf_3840, zf_25600, zf_36000, zf_1000000, zf_1000000000, zf_2000000000, zf_11560, za_1, za_2, za_4, za_5, za_6, za_7, za_8, za_9, za_10, za_11, za_12, za_14, za_15, za_22, za_23, za_25, za_26, za_27, za_28, za_29, za_30, za_31, za_32, za_33, za_34, za_35, za_41, za_42, za_43, za_44, za_45, za_46, za_47, za_48, za_49, za_61, za_62, za_63, za_64, za_65, za_71, za_72, za_73, za_74, za_75, za_76, za_77, za_78, za_79, za_80, za_81, za_82, za_83, za_84, za_85, za_86, za_87, za_88, za_89, za_90, za_91, za_92, za_93, za_94, za_95, za_96, za_97, za_98, za_99, za_100, za_101, za_102, za_103, za_104, za_105, za_106, za_107, za_108, loe_ok, h0]
          · have hle : ¬ z ≤ nI 100 := by
              intro h
              have := bad_gt hz (by omega) h0
              rw [Int32.lt_iff_toInt_lt] at this
              rw [Int32.le_iff_toInt_le] at h
              omega
            simp (disch := omega) only [zi_t, zi_f, bnd_t, zg_in, zx, nI_ltI, nI_leI, nI_eq, nI_add, pk_mul, pk_sub, mup_s, mup_c, mup_j, mrw_c, if_pos, if_neg, zm_1, zm_2, zm_3, zm_4, zm_5, zm_6, zm_7, zm_8, zm_9, zf_0, zf_1, zf_2, zf_3, zf_4, zf_5, zf_6, zf_7, zf_8, zf_9, zf_10, zf_14, zf_15, zf_16, zf_18, zf_19, zf_20, zf_24, zf_30, zf_31, zf_32, zf_33, zf_99, zf_100, zf_160, zf_200, zf_287, zf_288, zf_300, zf_1000, zf_1023, zf_1024, zf_1600, zf_3840, zf_25600, zf_36000, zf_1000000, zf_1000000000, zf_2000000000, zf_11560, za_1, za_2, za_4, za_5, za_6, za_7, za_8, za_9, za_10, za_11, za_12, za_14, za_15, za_22, za_23, za_25, za_26, za_27, za_28, za_29, za_30, za_31, za_32, za_33, za_34, za_35, za_41, za_42, za_43, za_44, za_45, za_46, za_47, za_48, za_49, za_61, za_62, za_63, za_64, za_65, za_71, za_72, za_73, za_74, za_75, za_76, za_77, za_78, za_79, za_80, za_81, za_82, za_83, za_84, za_85, za_86, za_87, za_88, za_89, za_90, za_91, za_92, za_93, za_94, za_95, za_96, za_97, za_98, za_99, za_100, za_101, za_102, za_103, za_104, za_105, za_106, za_107, za_108, loe_ok, h0, hle]
        · show F_X8_pair N m _ _ _ = _
          unfold F_X8_pair
          simp (disch := omega) only [zi_t, zi_f, bnd_t, zg_in, zx, nI_ltI, nI_leI, nI_eq, nI_add, pk_mul, pk_sub, mup_s, mup_c, mup_j, mrw_c, if_pos, if_neg, zm_1, zm_2, zm_3, zm_4, zm_5, zm_6, zm_7, zm_8, zm_9, zf_0, zf_1, zf_2, zf_3, zf_4, zf_5, zf_6, zf_7, zf_8, zf_9, zf_10, zf_14, zf_15, zf_16, zf_18, zf_19, zf_20, zf_24, zf_30, zf_31, zf_32, zf_33, zf_99, zf_100, zf_160, zf_200, zf_287, zf_288, zf_300, zf_1000, zf_1023, zf_1024, zf_1600, zf_3840, zf_25600, zf_36000, zf_1000000, zf_1000000000, zf_2000000000, zf_11560, za_1, za_2, za_4, za_5, za_6, za_7, za_8, za_9, za_10, za_11, za_12, za_14, za_15, za_22, za_23, za_25, za_26, za_27, za_28, za_29, za_30, za_31, za_32, za_33, za_34, za_35, za_41, za_42, za_43, za_44, za_45, za_46, za_47, za_48, za_49, za_61, za_62, za_63, za_64, za_65, za_71, za_72, za_73, za_74, za_75, za_76, za_77, za_78, za_79, za_80, za_81, za_82, za_83, za_84, za_85, za_86, za_87, za_88, za_89, za_90, za_91, za_92, za_93, za_94, za_95, za_96, za_97, za_98, za_99, za_100, za_101, za_102, za_103, za_104, za_105, za_106, za_107, za_108, isIn_ok, isIn_no hz]
          unfold B_X8_pair_34 B_X8_pair_35
          simp (disch := omega) only [zi_t, zi_f, bnd_t, zg_in, zx, nI_ltI, nI_leI, nI_eq, nI_add, pk_mul, pk_sub, mup_s, mup_c, mup_j, mrw_c, if_pos, if_neg, zm_1, zm_2, zm_3, zm_4, zm_5, zm_6, zm_7, zm_8, zm_9, zf_0, zf_1, zf_2, zf_3, zf_4, zf_5, zf_6, zf_7, zf_8, zf_9, zf_10, zf_14, zf_15, zf_16, zf_18, zf_19, zf_20, zf_24, zf_30, zf_31, zf_32, zf_33, zf_99, zf_100, zf_160, zf_200, zf_287, zf_288, zf_300, zf_1000, zf_1023, zf_1024, zf_1600, zf_3840, zf_25600, zf_36000, zf_1000000, zf_1000000000, zf_2000000000, zf_11560, za_1, za_2, za_4, za_5, za_6, za_7, za_8, za_9, za_10, za_11, za_12, za_14, za_15, za_22, za_23, za_25, za_26, za_27, za_28, za_29, za_30, za_31, za_32, za_33, za_34, za_35, za_41, za_42, za_43, za_44, za_45, za_46, za_47, za_48, za_49, za_61, za_62, za_63, za_64, za_65, za_71, za_72, za_73, za_74, za_75, za_76, za_77, za_78, za_79, za_80, za_81, za_82, za_83, za_84, za_85, za_86, za_87, za_88, za_89, za_90, za_91, za_92, za_93, za_94, za_95, za_96, za_97, za_98, za_99, za_100, za_101, za_102, za_103, za_104, za_105, za_106, za_107, za_108]
          unfold B_X8_pair_59
          rw [cal_t (fine_x (by omega) (by omega))]
          simp (disch := omega) only [zi_t, zi_f, bnd_t, zg_in, zx, nI_ltI, nI_leI, nI_eq, nI_add, pk_mul, pk_sub, mup_s, mup_c, mup_j, mrw_c, if_pos, if_neg, zm_1, zm_2, zm_3, zm_4, zm_5, zm_6, zm_7, zm_8, zm_9, zf_0, zf_1, zf_2, zf_3, zf_4, zf_5, zf_6, zf_7, zf_8, zf_9, zf_10, zf_14, zf_15, zf_16, zf_18, zf_19, zf_20, zf_24, zf_30, zf_31, zf_32, zf_33, zf_99, zf_100, zf_160, zf_200, zf_287, zf_288, zf_300, zf_1000, zf_1023, zf_1024, zf_1600, zf_3840, zf_25600, zf_36000, zf_1000000, zf_1000000000, zf_2000000000, zf_11560, za_1, za_2, za_4, za_5, za_6, za_7, za_8, za_9, za_10, za_11, za_12, za_14, za_15, za_22, za_23, za_25, za_26, za_27, za_28, za_29, za_30, za_31, za_32, za_33, za_34, za_35, za_41, za_42, za_43, za_44, za_45, za_46, za_47, za_48, za_49, za_61, za_62, za_63, za_64, za_65, za_71, za_72, za_73, za_74, za_75, za_76, za_77, za_78, za_79, za_80, za_81, za_82, za_83, za_84, za_85, za_86, za_87, za_88, za_89, za_90, za_91, za_92, za_93, za_94, za_95, za_96, za_97, za_98, za_99, za_100, za_101, za_102, za_103, za_104, za_105, za_106, za_107, za_108]
    · refine sim_no hV 0 (fun m _ => ?_) (fun m _ => ?_)
      · show F_X7_pair N m _ _ _ = _
        unfold F_X7_pair B_X7_pair_14
        simp (disch := omega) only [zi_t, zi_f, bnd_t, zg_in, zx, nI_ltI, nI_leI, nI_eq, nI_add, pk_mul, pk_sub, mup_s, mup_c, mup_j, mrw_c, if_pos, if_neg, zm_1, zm_2, zm_3, zm_4, zm_5, zm_6, zm_7, zm_8, zm_9, zf_0, zf_1, zf_2, zf_3, zf_4, zf_5, zf_6, zf_7, zf_8, zf_9, zf_10, zf_14, zf_15, zf_16, zf_18, zf_19, zf_20, zf_24, zf_30, zf_31, zf_32, zf_33, zf_99, zf_100, zf_160, zf_200, zf_287, zf_288, zf_300, zf_1000, zf_1023, zf_1024, zf_1600, zf_3840, zf_25600, zf_36000, zf_1000000, zf_1000000000, zf_2000000000, zf_11560, za_1, za_2, za_4, za_5, za_6, za_7, za_8, za_9, za_10, za_11, za_12, za_14, za_15, za_22, za_23, za_25, za_26, za_27, za_28, za_29, za_30, za_31, za_32, za_33, za_34, za_35, za_41, za_42, za_43, za_44, za_45, za_46, za_47, za_48, za_49, za_61, za_62, za_63, za_64, za_65, za_71, za_72, za_73, za_74, za_75, za_76, za_77, za_78, za_79, za_80, za_81, za_82, za_83, za_84, za_85, za_86, za_87, za_88, za_89, za_90, za_91, za_92, za_93, za_94, za_95, za_96, za_97, za_98, za_99, za_100, za_101, za_102, za_103, za_104, za_105, za_106, za_107, za_108, loe_ok, loe_no hy]
      · show F_X8_pair N m _ _ _ = _
        unfold F_X8_pair
        simp (disch := omega) only [zi_t, zi_f, bnd_t, zg_in, zx, nI_ltI, nI_leI, nI_eq, nI_add, pk_mul, pk_sub, mup_s, mup_c, mup_j, mrw_c, if_pos, if_neg, zm_1, zm_2, zm_3, zm_4, zm_5, zm_6, zm_7, zm_8, zm_9, zf_0, zf_1, zf_2, zf_3, zf_4, zf_5, zf_6, zf_7, zf_8, zf_9, zf_10, zf_14, zf_15, zf_16, zf_18, zf_19, zf_20, zf_24, zf_30, zf_31, zf_32, zf_33, zf_99, zf_100, zf_160, zf_200, zf_287, zf_288, zf_300, zf_1000, zf_1023, zf_1024, zf_1600, zf_3840, zf_25600, zf_36000, zf_1000000, zf_1000000000, zf_2000000000, zf_11560, za_1, za_2, za_4, za_5, za_6, za_7, za_8, za_9, za_10, za_11, za_12, za_14, za_15, za_22, za_23, za_25, za_26, za_27, za_28, za_29, za_30, za_31, za_32, za_33, za_34, za_35, za_41, za_42, za_43, za_44, za_45, za_46, za_47, za_48, za_49, za_61, za_62, za_63, za_64, za_65, za_71, za_72, za_73, za_74, za_75, za_76, za_77, za_78, za_79, za_80, za_81, za_82, za_83, za_84, za_85, za_86, za_87, za_88, za_89, za_90, za_91, za_92, za_93, za_94, za_95, za_96, za_97, za_98, za_99, za_100, za_101, za_102, za_103, za_104, za_105, za_106, za_107, za_108, isIn_ok, isIn_no hy]
        unfold B_X8_pair_34 B_X8_pair_35
        simp (disch := omega) only [zi_t, zi_f, bnd_t, zg_in, zx, nI_ltI, nI_leI, nI_eq, nI_add, pk_mul, pk_sub, mup_s, mup_c, mup_j, mrw_c, if_pos, if_neg, zm_1, zm_2, zm_3, zm_4, zm_5, zm_6, zm_7, zm_8, zm_9, zf_0, zf_1, zf_2, zf_3, zf_4, zf_5, zf_6, zf_7, zf_8, zf_9, zf_10, zf_14, zf_15, zf_16, zf_18, zf_19, zf_20, zf_24, zf_30, zf_31, zf_32, zf_33, zf_99, zf_100, zf_160, zf_200, zf_287, zf_288, zf_300, zf_1000, zf_1023, zf_1024, zf_1600, zf_3840, zf_25600, zf_36000, zf_1000000, zf_1000000000, zf_2000000000, zf_11560, za_1, za_2, za_4, za_5, za_6, za_7, za_8, za_9, za_10, za_11, za_12, za_14, za_15, za_22, za_23, za_25, za_26, za_27, za_28, za_29, za_30, za_31, za_32, za_33, za_34, za_35, za_41, za_42, za_43, za_44, za_45, za_46, za_47, za_48, za_49, za_61, za_62, za_63, za_64, za_65, za_71, za_72, za_73, za_74, za_75, za_76, za_77, za_78, za_79, za_80, za_81, za_82, za_83, za_84, za_85, za_86, za_87, za_88, za_89, za_90, za_91, za_92, za_93, za_94, za_95, za_96, za_97, za_98, za_99, za_100, za_101, za_102, za_103, za_104, za_105, za_106, za_107, za_108]
        unfold B_X8_pair_59
        rw [cal_t (fine_x (by omega) (by omega))]
        simp (disch := omega) only [zi_t, zi_f, bnd_t, zg_in, zx, nI_ltI, nI_leI, nI_eq, nI_add, pk_mul, pk_sub, mup_s, mup_c, mup_j, mrw_c, if_pos, if_neg, zm_1, zm_2, zm_3, zm_4, zm_5, zm_6, zm_7, zm_8, zm_9, zf_0, zf_1, zf_2, zf_3, zf_4, zf_5, zf_6, zf_7, zf_8, zf_9, zf_10, zf_14, zf_15, zf_16, zf_18, zf_19, zf_20, zf_24, zf_30, zf_31, zf_32, zf_33, zf_99, zf_100, zf_160, zf_200, zf_287, zf_288, zf_300, zf_1000, zf_1023, zf_1024, zf_1600, zf_3840, zf_25600, zf_36000, zf_1000000, zf_1000000000, zf_2000000000, zf_11560, za_1, za_2, za_4, za_5, za_6, za_7, za_8, za_9, za_10, za_11, za_12, za_14, za_15, za_22, za_23, za_25, za_26, za_27, za_28, za_29, za_30, za_31, za_32, za_33, za_34, za_35, za_41, za_42, za_43, za_44, za_45, za_46, za_47, za_48, za_49, za_61, za_62, za_63, za_64, za_65, za_71, za_72, za_73, za_74, za_75, za_76, za_77, za_78, za_79, za_80, za_81, za_82, za_83, za_84, za_85, za_86, za_87, za_88, za_89, za_90, za_91, za_92, za_93, za_94, za_95, za_96, za_97, za_98, za_99, za_100, za_101, za_102, za_103, za_104, za_105, za_106, za_107, za_108]
  · refine sim_no hV 0 (fun m _ => ?_) (fun m _ => ?_)
    · show F_X7_pair N m _ _ _ = _
      unfold F_X7_pair B_X7_pair_14
      simp (disch := omega) only [zi_t, zi_f, bnd_t, zg_in, zx, nI_ltI, nI_leI, nI_eq, nI_add, pk_mul, pk_sub, mup_s, mup_c, mup_j, mrw_c, if_pos, if_neg, zm_1, zm_2, zm_3, zm_4, zm_5, zm_6, zm_7, zm_8, zm_9, zf_0, zf_1, zf_2, zf_3, zf_4, zf_5, zf_6, zf_7, zf_8, zf_9, zf_10, zf_14, zf_15, zf_16, zf_18, zf_19, zf_20, zf_24, zf_30, zf_31, zf_32, zf_33, zf_99, zf_100, zf_160, zf_200, zf_287, zf_288, zf_300, zf_1000, zf_1023, zf_1024, zf_1600, zf_3840, zf_25600, zf_36000, zf_1000000, zf_1000000000, zf_2000000000, zf_11560, za_1, za_2, za_4, za_5, za_6, za_7, za_8, za_9, za_10, za_11, za_12, za_14, za_15, za_22, za_23, za_25, za_26, za_27, za_28, za_29, za_30, za_31, za_32, za_33, za_34, za_35, za_41, za_42, za_43, za_44, za_45, za_46, za_47, za_48, za_49, za_61, za_62, za_63, za_64, za_65, za_71, za_72, za_73, za_74, za_75, za_76, za_77, za_78, za_79, za_80, za_81, za_82, za_83, za_84, za_85, za_86, za_87, za_88, za_89, za_90, za_91, za_92, za_93, za_94, za_95, za_96, za_97, za_98, za_99, za_100, za_101, za_102, za_103, za_104, za_105, za_106, za_107, za_108, loe_no hx]
    · show F_X8_pair N m _ _ _ = _
      unfold F_X8_pair
      simp (disch := omega) only [zi_t, zi_f, bnd_t, zg_in, zx, nI_ltI, nI_leI, nI_eq, nI_add, pk_mul, pk_sub, mup_s, mup_c, mup_j, mrw_c, if_pos, if_neg, zm_1, zm_2, zm_3, zm_4, zm_5, zm_6, zm_7, zm_8, zm_9, zf_0, zf_1, zf_2, zf_3, zf_4, zf_5, zf_6, zf_7, zf_8, zf_9, zf_10, zf_14, zf_15, zf_16, zf_18, zf_19, zf_20, zf_24, zf_30, zf_31, zf_32, zf_33, zf_99, zf_100, zf_160, zf_200, zf_287, zf_288, zf_300, zf_1000, zf_1023, zf_1024, zf_1600, zf_3840, zf_25600, zf_36000, zf_1000000, zf_1000000000, zf_2000000000, zf_11560, za_1, za_2, za_4, za_5, za_6, za_7, za_8, za_9, za_10, za_11, za_12, za_14, za_15, za_22, za_23, za_25, za_26, za_27, za_28, za_29, za_30, za_31, za_32, za_33, za_34, za_35, za_41, za_42, za_43, za_44, za_45, za_46, za_47, za_48, za_49, za_61, za_62, za_63, za_64, za_65, za_71, za_72, za_73, za_74, za_75, za_76, za_77, za_78, za_79, za_80, za_81, za_82, za_83, za_84, za_85, za_86, za_87, za_88, za_89, za_90, za_91, za_92, za_93, za_94, za_95, za_96, za_97, za_98, za_99, za_100, za_101, za_102, za_103, za_104, za_105, za_106, za_107, za_108, isIn_no hx]
      unfold B_X8_pair_34 B_X8_pair_35
      simp (disch := omega) only [zi_t, zi_f, bnd_t, zg_in, zx, nI_ltI, nI_leI, nI_eq, nI_add, pk_mul, pk_sub, mup_s, mup_c, mup_j, mrw_c, if_pos, if_neg, zm_1, zm_2, zm_3, zm_4, zm_5, zm_6, zm_7, zm_8, zm_9, zf_0, zf_1, zf_2, zf_3, zf_4, zf_5, zf_6, zf_7, zf_8, zf_9, zf_10, zf_14, zf_15, zf_16, zf_18, zf_19, zf_20, zf_24, zf_30, zf_31, zf_32, zf_33, zf_99, zf_100, zf_160, zf_200, zf_287, zf_288, zf_300, zf_1000, zf_1023, zf_1024, zf_1600, zf_3840, zf_25600, zf_36000, zf_1000000, zf_1000000000, zf_2000000000, zf_11560, za_1, za_2, za_4, za_5, za_6, za_7, za_8, za_9, za_10, za_11, za_12, za_14, za_15, za_22, za_23, za_25, za_26, za_27, za_28, za_29, za_30, za_31, za_32, za_33, za_34, za_35, za_41, za_42, za_43, za_44, za_45, za_46, za_47, za_48, za_49, za_61, za_62, za_63, za_64, za_65, za_71, za_72, za_73, za_74, za_75, za_76, za_77, za_78, za_79, za_80, za_81, za_82, za_83, za_84, za_85, za_86, za_87, za_88, za_89, za_90, za_91, za_92, za_93, za_94, za_95, za_96, za_97, za_98, za_99, za_100, za_101, za_102, za_103, za_104, za_105, za_106, za_107, za_108]
      unfold B_X8_pair_59
      rw [cal_t (fine_x (by omega) (by omega))]
      simp (disch := omega) only [zi_t, zi_f, bnd_t, zg_in, zx, nI_ltI, nI_leI, nI_eq, nI_add, pk_mul, pk_sub, mup_s, mup_c, mup_j, mrw_c, if_pos, if_neg, zm_1, zm_2, zm_3, zm_4, zm_5, zm_6, zm_7, zm_8, zm_9, zf_0, zf_1, zf_2, zf_3, zf_4, zf_5, zf_6, zf_7, zf_8, zf_9, zf_10, zf_14, zf_15, zf_16, zf_18, zf_19, zf_20, zf_24, zf_30, zf_31, zf_32, zf_33, zf_99, zf_100, zf_160, zf_200, zf_287, zf_288, zf_300, zf_1000, zf_1023, zf_1024, zf_1600, zf_3840, zf_25600, zf_36000, zf_1000000, zf_1000000000, zf_2000000000, zf_11560, za_1, za_2, za_4, za_5, za_6, za_7, za_8, za_9, za_10, za_11, za_12, za_14, za_15, za_22, za_23, za_25, za_26, za_27, za_28, za_29, za_30, za_31, za_32, za_33, za_34, za_35, za_41, za_42, za_43, za_44, za_45, za_46, za_47, za_48, za_49, za_61, za_62, za_63, za_64, za_65, za_71, za_72, za_73, za_74, za_75, za_76, za_77, za_78, za_79, za_80, za_81, za_82, za_83, za_84, za_85, za_86, za_87, za_88, za_89, za_90, za_91, za_92, za_93, za_94, za_95, za_96, za_97, za_98, za_99, za_100, za_101, za_102, za_103, za_104, za_105, za_106, za_107, za_108]
