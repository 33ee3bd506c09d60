theorem made_ex (n st : Nat) (E : Nat → Bool) (D : ArL) : ∃ o, Made n st E D o := by
  have hW : ∃ W, WS D E n st W := by
    classical
    refine ⟨(List.range n).filter (fun s => decide (Rc (aR D) st s ∧ ∃ e, e < n ∧ E e = true ∧ Rc (aR D) s e)), List.nodup_range.filter _, fun s => ?_⟩
    rw [List.mem_filter, List.mem_range, decide_eq_true_eq]
  obtain ⟨W, hW⟩ := hW
  by_cases h : tooBig D W
  · exact ⟨none, W, hW, Or.inl ⟨h, rfl⟩⟩
  · exact ⟨some (mdM E D W st), W, hW, Or.inr ⟨h, rfl⟩⟩
theorem rs_wrap {c : Nat} {o : Option Ma} {m : Mem} : calx (some (rsC c o, m)) (fun (r : Int32) (m : Mem) => some ((.inl r : Int32 ⊕ Nat), m)) = some (rsC c o, m) := by
  cases o <;> rfl
theorem cr_make {N n st : Nat} {m : Mem} {o : Option ((Int32 ⊕ Nat) × Mem)} {E : Nat → Bool} {D : ArL} {Ms : List Ma} {w : List Nat} {ls : Ls} {oM : Option Ma} (hN : 30000 < N) (hI : InC m Ms w ls) (hc : Ms.length ≤ 24) (hst : st < n) (hn : n ≤ 1024) (hD : D.length ≤ 25600) (hok : DOK n D) (hM : if Ms.length < 24 then Made n st E D oM else oM = none)
    (h : ∃ md, o = calx (F_X7_keepDraft N md) (fun r m => some (.inl r, m)) ∧ Off 3 16 m md ∧ DR md n st E D) : CR o m (rsC Ms.length oM) (Ms ++ oM.toList) w ls := by
  obtain ⟨md, h1, h2, h3⟩ := h
  obtain ⟨o2, m1, g1, g2, g3, g4⟩ := cls_keep hN hI h2 h3 hn hst hD hok hc
  have e : o2 = oM := by
    by_cases hl : Ms.length < 24
    · rw [if_pos hl] at g1 hM
      exact Made.uq g1 hM (fun _ => Iff.rfl) hst hst hok hok (fun _ _ _ => rfl)
    · rw [if_neg hl] at g1 hM
      rw [g1, hM]
  subst e
  exact ⟨m1, by rw [h1, g2]; exact rs_wrap, g3, g4⟩
theorem inv_add {Ms : List Ma} {w : List Nat} {ls : Ls} {oM : Option Ma} (hV : InV Ms w ls) (h : ∀ M, oM = some M → Ms.length < 24 ∧ VM M) : InV (Ms ++ oM.toList) w ls := by
  obtain ⟨v1, v2, v3⟩ := hV
  cases oM with
  | none => show InV (Ms ++ []) w ls; rw [List.append_nil]; exact ⟨v1, v2, v3⟩
  | some M =>
    obtain ⟨h1, h2⟩ := h M rfl
    refine ⟨by rw [List.length_append]; show Ms.length + 1 ≤ 24; omega, ?_, v3⟩
    intro X hX
    rcases List.mem_append.mp hX with e | e
    · exact v2 X e
    · have : X = M := List.mem_singleton.mp e
      rw [this]; exact h2
def Sim1 (κ : Nat → Int32) (c : Mem → Option ((Int32 ⊕ Nat) × Mem)) (d : Mem → Option (Int32 × Mem)) (Ms : List Ma) (w : List Nat) (ls : Ls) : Prop :=
  ∃ r t b Ms' w' ls', InV Ms' w' ls' ∧ (∀ m, InC m Ms w ls → CR (c m) m r Ms' w' ls') ∧ (∀ m, InM m Ms w ls → MoR (d m) m t b Ms' w' ls') ∧ t = kap κ r ∧ ∀ v, r = .inl v → b = v
theorem sim_no {κ : Nat → Int32} {c : Mem → Option ((Int32 ⊕ Nat) × Mem)} {d : Mem → Option (Int32 × Mem)} {Ms : List Ma} {w : List Nat} {ls : Ls} (hV : InV Ms w ls) (x : Nat) (hc : ∀ m, InC m Ms w ls → c m = some (.inr x, m)) (hd : ∀ m, InM m Ms w ls → d m = some (nI 0, mup m 70 0 (κ x))) : Sim1 κ c d Ms w ls :=
  ⟨.inr x, κ x, nI 0, Ms, w, ls, hV, fun m h => cr_no h (hc m h), fun m h => mor_no h (hd m h) (fun _ _ => rfl), rfl, fun v hv => by cases hv⟩
def AF (n : Nat) (ru rl : Nat → Nat) (q : Nat × Nat) : Prop := ∃ s u l t c, q = (pkA s u l t, c) ∧ s < n ∧ u ≤ 8 ∧ l ≤ 8 ∧ t < n ∧ c ≤ 1000000 ∧ (u = 8 → ru t < ru s) ∧ (l = 8 → rl t < rl s)
theorem AF.all {n : Nat} {ru rl : Nat → Nat} {D : ArL} (hn : n ≤ 1024) (h : ∀ q, q ∈ D → AF n ru rl q) : DOK n D ∧ Acy upr D ∧ Acy lwr D := by
  refine ⟨fun q hq => ?_, ⟨ru, fun q hq h8 => ?_⟩, ⟨rl, fun q hq h8 => ?_⟩⟩
  · obtain ⟨s, u, l, t, c, rfl, h1, h2, h3, h4, h5, _⟩ := h q hq
    exact AOK.mk hn h1 h2 h3 h4 h5
  · obtain ⟨s, u, l, t, c, rfl, h1, h2, h3, h4, h5, h6, h7⟩ := h q hq
    have e1 : fr (pkA s u l t) = s := pkA_from (by omega) (by omega) (by omega)
    have e2 : too (pkA s u l t) = t := pkA_to (by omega)
    have e3 : upr (pkA s u l t) = u := pkA_upper (by omega) (by omega) (by omega)
    show ru (too (pkA s u l t)) < ru (fr (pkA s u l t))
    rw [e1, e2]
    exact h6 (e3.symm.trans h8)
  · obtain ⟨s, u, l, t, c, rfl, h1, h2, h3, h4, h5, h6, h7⟩ := h q hq
    have e1 : fr (pkA s u l t) = s := pkA_from (by omega) (by omega) (by omega)
    have e2 : too (pkA s u l t) = t := pkA_to (by omega)
    have e3 : lwr (pkA s u l t) = l := pkA_lower (by omega) (by omega)
    show rl (too (pkA s u l t)) < rl (fr (pkA s u l t))
    rw [e1, e2]
    exact h7 (e3.symm.trans h8)
theorem DOK.wd {n n' : Nat} {D : ArL} (h : DOK n D) (hn : n ≤ n') : DOK n' D := fun q hq => by
  obtain ⟨a, b, c, d⟩ := h q hq
  exact ⟨a, Nat.lt_of_lt_of_le b hn, Nat.lt_of_lt_of_le c hn, d⟩
theorem mw_end {m : Mem} {E : Nat → Bool} {D : ArL} (h : MW m E D) (s : Nat) (b : Bool) : MW (mup m 82 s (bI b)) (fun x => if x = s then b else E x) D := by
  refine ⟨by rw [mup_c (by omega)]; exact h.1, h.2.1.cg (mup_r (by omega)) (mup_r (by omega)), fun x hx => ?_⟩
  show mup m 82 s (bI b) 82 x = bI (if x = s then b else E x)
  rw [mup_if]
  by_cases e : x = s
  · rw [if_pos e, if_pos e]
  · rw [if_neg e, if_neg e]
    exact h.2.2 x hx
def bA (f : Nat → Nat × Nat) (i : Nat) : ArL := (List.range i).map f
theorem bA_s (f : Nat → Nat × Nat) (i : Nat) : bA f (i + 1) = bA f i ++ [f i] := by
  unfold bA
  rw [List.range_succ, List.map_append]; rfl
theorem bA_len (f : Nat → Nat × Nat) (i : Nat) : (bA f i).length = i := by
  unfold bA
  rw [List.length_map, List.length_range]
theorem bA_mem {f : Nat → Nat × Nat} {i : Nat} {q : Nat × Nat} (h : q ∈ bA f i) : ∃ k, k < i ∧ f k = q := by
  obtain ⟨k, hk, e⟩ := List.mem_map.mp h
  exact ⟨k, List.mem_range.mp hk, e⟩
