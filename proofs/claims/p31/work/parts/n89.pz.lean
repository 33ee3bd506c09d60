theorem seg_mem {U : ArL} {s : Nat} {q : Nat × Nat} (hs : Srt U) : q ∈ seg U s ↔ q ∈ U ∧ fr q.1 = s := by
  unfold seg
  constructor
  · intro h
    obtain ⟨j, hj⟩ := List.getElem?_of_mem h
    rw [List.getElem?_drop, List.getElem?_take] at hj
    split at hj
    · rename_i hlt
      have h1 := (lb_iff (pkA (s + 1) 0 0 0) hs _ q hj).mpr hlt
      have h2 : ¬ q.1 < pkA s 0 0 0 := fun h => by
        have := (lb_iff (pkA s 0 0 0) hs _ q hj).mp h
        unfold segA at hj hlt this
        omega
      refine ⟨List.mem_of_getElem? hj, ?_⟩
      unfold pkA at h1 h2
      show q.1 / 262144 = s
      omega
    · cases hj
  · rintro ⟨h, hf⟩
    have hf : q.1 / 262144 = s := hf
    obtain ⟨j, hj⟩ := List.getElem?_of_mem h
    have h1 := (lb_iff (pkA (s + 1) 0 0 0) hs _ q hj).mp (by unfold pkA; omega)
    have h2 : ¬ j < lb U (pkA s 0 0 0) := fun h => by
      have := (lb_iff (pkA s 0 0 0) hs _ q hj).mpr h
      unfold pkA at this
      omega
    refine List.mem_of_getElem? (i := j - segA U s) ?_
    unfold segA
    rw [List.getElem?_drop, List.getElem?_take, show lb U (pkA s 0 0 0) + (j - lb U (pkA s 0 0 0)) = j by omega, if_pos h1]
    exact hj
theorem outs_mem {U : ArL} {s t : Nat} (hs : Srt U) : t ∈ outs U s ↔ aR U s t := by
  unfold outs
  rw [List.mem_map]
  constructor
  · rintro ⟨q, h, e⟩
    have := (seg_mem hs).mp h
    exact ⟨q, this.1, this.2, e⟩
  · rintro ⟨q, h, e1, e2⟩
    exact ⟨q, (seg_mem hs).mpr ⟨h, e1⟩, e2⟩
theorem bfs_cl {U : ArL} : ∀ (d k : Nat) (Q0 : List Nat), Q0.Nodup → (∀ i s, i < k → Q0[i]? = some s → ∀ t, t ∈ outs U s → t ∈ Q0) →
    (bfs U d k Q0).Nodup ∧ (∃ R, bfs U d k Q0 = Q0 ++ R) ∧ (∀ i s, i < k + d → (bfs U d k Q0)[i]? = some s → ∀ t, t ∈ outs U s → t ∈ bfs U d k Q0) ∧
    (∀ P : Nat → Prop, (∀ x, x ∈ Q0 → P x) → (∀ s t, P s → t ∈ outs U s → P t) → ∀ x, x ∈ bfs U d k Q0 → P x) := by
  intro d
  induction d with
  | zero => intro k Q0 h1 h2; exact ⟨h1, ⟨[], (List.append_nil _).symm⟩, h2, fun P h _ => h⟩
  | succ d ih =>
    intro k Q0 h1 h2
    cases hk : Q0[k]? with
    | none =>
      have hb : bfs U (d + 1) k Q0 = Q0 := by
        show (match Q0[k]? with | none => Q0 | some s => bfs U d (k + 1) ((outs U s).foldl addN Q0)) = _
        rw [hk]
      rw [hb]
      have hl := List.getElem?_eq_none_iff.mp hk
      refine ⟨h1, ⟨[], (List.append_nil _).symm⟩, ?_, fun P h _ => h⟩
      intro i s _ hi
      exact h2 i s (by have := (List.getElem?_eq_some_iff.mp hi).1; omega) hi
    | some s =>
      have hb : bfs U (d + 1) k Q0 = bfs U d (k + 1) ((outs U s).foldl addN Q0) := by
        show (match Q0[k]? with | none => Q0 | some s => bfs U d (k + 1) ((outs U s).foldl addN Q0)) = _
        rw [hk]
      rw [hb]
      have hnd : ∀ (T Q : List Nat), Q.Nodup → (T.foldl addN Q).Nodup := by
        intro T
        induction T with
        | nil => intro Q h; exact h
        | cons t T iT => intro Q h; exact iT _ (addN_nodup h)
      obtain ⟨R, hR⟩ := addNs_pre (outs U s) Q0
      obtain ⟨a1, ⟨R2, a2⟩, a3, a4⟩ := ih (k + 1) ((outs U s).foldl addN Q0) (hnd _ _ h1) (by
        intro i x hi hx t ht
        have hkl := (List.getElem?_eq_some_iff.mp hk).1
        have hx2 : Q0[i]? = some x := by
          rw [hR, List.getElem?_append_left (by omega)] at hx
          exact hx
        rcases Nat.lt_or_ge i k with e | e
        · exact (addNs_mem _ _ _).mpr (Or.inl (h2 i x e hx2 t ht))
        · have e2 : i = k := by omega
          subst e2
          rw [hk] at hx2
          rw [Option.some.inj hx2]
          exact (addNs_mem _ _ _).mpr (Or.inr ht))
      refine ⟨a1, ⟨R ++ R2, by rw [a2, hR, List.append_assoc]⟩, fun i x hi => a3 i x (by omega), ?_⟩
      intro P hP hst
      refine a4 P ?_ hst
      intro x hx
      rcases (addNs_mem _ _ _).mp hx with e | e
      · exact hP x e
      · exact hst s x (hP s (List.mem_of_getElem? hk)) e
def WS (D : ArL) (E : Nat → Bool) (n st : Nat) (W : List Nat) : Prop := W.Nodup ∧ ∀ s, s ∈ W ↔ s < n ∧ Rc (aR D) st s ∧ ∃ e, e < n ∧ E e = true ∧ Rc (aR D) s e
abbrev usA (D : ArL) (W : List Nat) : ArL := insL (D.filter (inW W)) []
abbrev ordQ (U : ArL) (st : Nat) : List Nat := bfs U 32 0 [st]
theorem usA_of {D : ArL} {W : List Nat} {q : Nat × Nat} (h : q ∈ usA D W) : q ∈ D ∧ fr q.1 ∈ W ∧ too q.1 ∈ W := by
  have := List.mem_filter.mp (insL_of h)
  exact ⟨this.1, inW_iff.mp this.2⟩
theorem usA_has {D : ArL} {W : List Nat} {q : Nat × Nat} (h : q ∈ D) (h1 : fr q.1 ∈ W) (h2 : too q.1 ∈ W) : ∃ k, (q.1, k) ∈ usA D W := by
  obtain ⟨d, hd, hd2⟩ := pk_least (fun c => (q.1, c) ∈ D.filter (inW W)) ⟨q.2, List.mem_filter.mpr ⟨h, inW_iff.mpr ⟨h1, h2⟩⟩⟩
  exact ⟨d, ((Cn.ofL _).2 q.1 d).mpr ⟨hd, fun k' hk' => Nat.le_of_not_lt (fun hl => hd2 k' hl hk')⟩⟩
theorem ord_all {D : ArL} {E : Nat → Bool} {n st : Nat} {W : List Nat} (hW : WS D E n st W) (hok : DOK n D) (hst : st ∈ W) (hl : W.length ≤ 32) :
    (ordQ (usA D W) st).Nodup ∧ (∀ s, s ∈ ordQ (usA D W) st ↔ s ∈ W) ∧ (ordQ (usA D W) st)[0]? = some st := by
  obtain ⟨a1, ⟨R, a2⟩, a3, a4⟩ := bfs_cl (U := usA D W) 32 0 [st] (by simp) (fun i s hi => absurd hi (Nat.not_lt_zero _))
  have hin : ∀ x, x ∈ ordQ (usA D W) st → x ∈ W := by
    refine a4 (fun x => x ∈ W) (fun x hx => by rw [List.mem_singleton] at hx; rw [hx]; exact hst) ?_
    intro s t _ ht
    obtain ⟨q, hq, _, e2⟩ := (outs_mem (insL_srt _)).mp ht
    rw [← e2]; exact (usA_of hq).2.2
  have hlen : (ordQ (usA D W) st).length ≤ 32 := Nat.le_trans (nodup_le _ W a1 hin) hl
  have hst2 : st ∈ ordQ (usA D W) st := by
    show st ∈ bfs (usA D W) 32 0 [st]
    rw [a2]; exact List.mem_append.mpr (Or.inl (List.mem_singleton.mpr rfl))
  refine ⟨a1, fun s => ⟨hin s, ?_⟩, by show (bfs (usA D W) 32 0 [st])[0]? = some st; rw [a2]; rfl⟩
  intro hs
  have hsw := (hW.2 s).mp hs
  have hb : ∀ x, Rc (aR D) st x → Rc (aR D) st x ∧ (x ∈ W → x ∈ ordQ (usA D W) st) := by
    intro x hx
    refine hx.cl (S := fun x => Rc (aR D) st x ∧ (x ∈ W → x ∈ ordQ (usA D W) st)) ⟨Rc.rf, fun _ => hst2⟩ ?_
    rintro x y ⟨h1, h2⟩ hr
    refine ⟨h1.st hr, fun hy => ?_⟩
    obtain ⟨q, hq, e1, e2⟩ := hr
    obtain ⟨_, _, e, he, hE, hre⟩ := (hW.2 y).mp hy
    have hxW : x ∈ W := (hW.2 x).mpr ⟨by rw [← e1]; exact (hok q hq).2.1, h1, e, he, hE, Rc.hd ⟨q, hq, e1, e2⟩ hre⟩
    obtain ⟨k, hk⟩ := usA_has (W := W) hq (by rw [e1]; exact hxW) (by rw [e2]; exact hy)
    obtain ⟨i, hi⟩ := List.getElem?_of_mem (h2 hxW)
    exact a3 i x (by have := (List.getElem?_eq_some_iff.mp hi).1; omega) hi y ((outs_mem (insL_srt _)).mpr ⟨(q.1, k), hk, e1, e2⟩)
  exact (hb s hsw.2.1).2 hs
theorem ord_none {D : ArL} {E : Nat → Bool} {n st : Nat} {W : List Nat} (hW : WS D E n st W) (hsn : st < n) (hst : ¬ st ∈ W) : W = [] ∧ usA D W = [] ∧ ordQ (usA D W) st = [st] ∧ E st = false := by
  have h1 : W = [] := by
    cases W with
    | nil => rfl
    | cons x W =>
      obtain ⟨_, h1, e, he, hE, h2⟩ := (hW.2 x).mp (List.mem_cons_self ..)
      exact absurd ((hW.2 st).mpr ⟨hsn, Rc.rf, e, he, hE, h1.tr h2⟩) hst
  have h2 : usA D W = [] := by
    rw [h1]
    have : D.filter (inW []) = [] := by
      apply List.filter_eq_nil_iff.mpr
      intro q _ h
      have := (inW_iff.mp h).1
      cases this
    show insL (D.filter (inW [])) [] = []
    rw [this]; rfl
  refine ⟨h1, h2, ?_, ?_⟩
  · rw [h2]
    have ho : outs [] st = [] := by simp [outs, seg]
    show (match [st][0]? with | none => [st] | some s => bfs [] 31 (0 + 1) ((outs [] s).foldl addN [st])) = [st]
    show bfs [] 31 (0 + 1) ((outs [] st).foldl addN [st]) = [st]
    rw [ho]
    rfl
  · cases hE : E st with
    | false => rfl
    | true => exact absurd ((hW.2 st).mpr ⟨hsn, Rc.rf, st, hsn, hE, Rc.rf⟩) hst
def eB (b : Nat → Bool) : Nat → Int32
  | 0 => nI 0
  | k + 1 => if b k then eB b k ||| q_shl (nI 1) (nI k) else eB b k
def endQ (E : Nat → Bool) (Q : List Nat) (k : Nat) : Bool := E (Q.getD k 0)
theorem dr_writeEnds {N n st a : Nat} {m : Mem} {E : Nat → Bool} {D : ArL} {Q : List Nat} (hN : 30000 < N) (ha : 200 ≤ a) (h : DR m n st E D) (hn : n ≤ 1024) (hQ : NQ m n Q) (h1 : m a 1 = nI Q.length) (h2 : m a 2 = nI 0) :
    ∃ m', F_X1_writeEnds N m a = some m' ∧ m' a 2 = eB (endQ E Q) Q.length ∧ m' a 1 = nI Q.length ∧ Off a (a + 1) m m' := by
  unfold F_X1_writeEnds
  have hql := hQ.len
  refine loopF (fun f (m : Mem) i => L_X1_writeEnds_2 N f m a (nI i)) Q.length (fun i m' => m' a 2 = eB (endQ E Q) i ∧ m' a 1 = nI Q.length ∧ Off a (a + 1) m m') (fun o => ∃ m', o = some m' ∧ m' a 2 = eB (endQ E Q) Q.length ∧ m' a 1 = nI Q.length ∧ Off a (a + 1) m m') ?_ ?_ N 0 m (Nat.zero_le _) ⟨h2, h1, Off.rf⟩ (by omega)
  · rintro f i m1 hi ⟨k1, k2, k3⟩
    obtain ⟨q, hq⟩ : ∃ q, Q[i]? = some q := ⟨_, List.getElem?_eq_getElem hi⟩
    have hqn := hQ.2.1 q (List.mem_of_getElem? hq)
    have e9 := (k3.at (k := 9) (by omega) i).trans (hQ.2.2.1 i q hq)
    have e6 := (k3.at (k := 6) (by omega) q).trans (h.2.2.2.2 q hqn)
    have hE : endQ E Q i = E q := by unfold endQ; rw [List.getD_eq_getElem?_getD, hq]; rfl
    cases hb : E q with
    | true =>
      rw [hb, bI_t] at e6
      refine Or.inl ⟨mup m1 a 2 (eB (endQ E Q) i ||| q_shl (nI 1) (nI i)), ⟨?_, by rw [mup_j (by omega)]; exact k2, k3.up (by omega) (by omega)⟩, ?_⟩
      · rw [mup_s]
        show _ = if endQ E Q i = true then _ else _
        rw [hE, hb, if_pos rfl]
      · show S_X1_writeEnds_2 N (L_X1_writeEnds_2 N f) m1 a (nI i) = _
        unfold S_X1_writeEnds_2 B_X1_writeEnds_36
        simp (disch := omega) only [zi_t, zi_f, bnd_t, zg_in, zx, nI_ltI, nI_leI, nI_eq, nI_add, pk_mul, pk_sub, mup_s, mup_c, mup_j, mrw_c, if_pos, if_neg, zm_1, zm_2, zm_3, zm_4, zm_5, zm_6, zm_7, zm_8, zm_9, zf_0, zf_1, zf_2, zf_3, zf_4, zf_5, zf_6, zf_7, zf_8, zf_9, zf_10, zf_14, zf_15, zf_16, zf_18, zf_19, zf_20, zf_24, zf_30, zf_31, zf_32, zf_33, zf_99, zf_100, zf_160, zf_200, zf_287, zf_288, zf_300, zf_1000, zf_1023, zf_1024, zf_1600, zf_3840, zf_25600, zf_36000, zf_1000000, zf_1000000000, zf_2000000000, zf_11560, za_1, za_2, za_4, za_5, za_6, za_7, za_8, za_9, za_10, za_11, za_12, za_14, za_15, za_22, za_23, za_25, za_26, za_27, za_28, za_29, za_30, za_31, za_32, za_33, za_34, za_35, za_41, za_42, za_43, za_44, za_45, za_46, za_47, za_48, za_49, za_61, za_62, za_63, za_64, za_65, za_70, k1, k2, e9, e6]
    | false =>
      rw [hb, bI_f] at e6
      refine Or.inl ⟨m1, ⟨?_, k2, k3⟩, ?_⟩
      · rw [k1]
        show _ = if endQ E Q i = true then _ else _
        rw [hE, hb, if_neg (by simp)]
      · show S_X1_writeEnds_2 N (L_X1_writeEnds_2 N f) m1 a (nI i) = _
        unfold S_X1_writeEnds_2 B_X1_writeEnds_36
        simp (disch := omega) only [zi_t, zi_f, bnd_t, zg_in, zx, nI_ltI, nI_leI, nI_eq, nI_add, pk_mul, pk_sub, mup_s, mup_c, mup_j, mrw_c, if_pos, if_neg, zm_1, zm_2, zm_3, zm_4, zm_5, zm_6, zm_7, zm_8, zm_9, zf_0, zf_1, zf_2, zf_3, zf_4, zf_5, zf_6, zf_7, zf_8, zf_9, zf_10, zf_14, zf_15, zf_16, zf_18, zf_19, zf_20, zf_24, zf_30, zf_31, zf_32, zf_33, zf_99, zf_100, zf_160, zf_200, zf_287, zf_288, zf_300, zf_1000, zf_1023, zf_1024, zf_1600, zf_3840, zf_25600, zf_36000, zf_1000000, zf_1000000000, zf_2000000000, zf_11560, za_1, za_2, za_4, za_5, za_6, za_7, za_8, za_9, za_10, za_11, za_12, za_14, za_15, za_22, za_23, za_25, za_26, za_27, za_28, za_29, za_30, za_31, za_32, za_33, za_34, za_35, za_41, za_42, za_43, za_44, za_45, za_46, za_47, za_48, za_49, za_61, za_62, za_63, za_64, za_65, za_70, k1, k2, e9, e6]
  · rintro f m1 ⟨k1, k2, k3⟩
    refine ⟨m1, ?_, k1, k2, k3⟩
    show S_X1_writeEnds_2 N (L_X1_writeEnds_2 N f) m1 a (nI Q.length) = _
    unfold S_X1_writeEnds_2
    simp (disch := omega) only [zi_t, zi_f, bnd_t, zg_in, zx, nI_ltI, nI_leI, nI_eq, nI_add, pk_mul, pk_sub, mup_s, mup_c, mup_j, mrw_c, if_pos, if_neg, zm_1, zm_2, zm_3, zm_4, zm_5, zm_6, zm_7, zm_8, zm_9, zf_0, zf_1, zf_2, zf_3, zf_4, zf_5, zf_6, zf_7, zf_8, zf_9, zf_10, zf_14, zf_15, zf_16, zf_18, zf_19, zf_20, zf_24, zf_30, zf_31, zf_32, zf_33, zf_99, zf_100, zf_160, zf_200, zf_287, zf_288, zf_300, zf_1000, zf_1023, zf_1024, zf_1600, zf_3840, zf_25600, zf_36000, zf_1000000, zf_1000000000, zf_2000000000, zf_11560, za_1, za_2, za_4, za_5, za_6, za_7, za_8, za_9, za_10, za_11, za_12, za_14, za_15, za_22, za_23, za_25, za_26, za_27, za_28, za_29, za_30, za_31, za_32, za_33, za_34, za_35, za_41, za_42, za_43, za_44, za_45, za_46, za_47, za_48, za_49, za_61, za_62, za_63, za_64, za_65, za_70, k2]
def reA (Q : List Nat) (q : Nat × Nat) : Nat × Nat := (pkA (ixo Q (fr q.1)) (upr q.1) (lwr q.1) (ixo Q (too q.1)), q.2)
