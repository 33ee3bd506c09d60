theorem insL_id {L : ArL} (h : Srt L) : insL L [] = L := by
  refine srt_ext _ _ (insL_srt L) h (fun q => ⟨insL_of, fun hq => ?_⟩)
  exact ((Cn.ofL L).2 q.1 q.2).mpr ⟨hq, fun k' hk' => by rw [h.inj hq hk']; exact Nat.le_refl _⟩
section BFSID
variable {n : Nat} {L : ArL}
theorem fold_id (hb : DetB n L) (hn : n ≤ 32) (hs : Srt L) {k : Nat} : ∀ (B A : ArL) (len : Nat), seg L k = A ++ B → 1 ≤ len → len ≤ n → (∀ q, q ∈ L → fr q.1 < k ∨ q ∈ A → too q.1 < len) → ∃ len', (B.map (fun q => too q.1)).foldl addN (List.range len) = List.range len' ∧ len ≤ len' ∧ len' ≤ n ∧ ∀ q, q ∈ L → fr q.1 < k ∨ q ∈ A ++ B → too q.1 < len'
  | [], A, len, _, h1, h2, hcl => ⟨len, rfl, Nat.le_refl _, h2, by rw [List.append_nil]; exact hcl⟩
  | q :: B, A, len, hseg, h1, h2, hcl => by
    have hqs : q ∈ seg L k := by rw [hseg]; simp
    obtain ⟨hq, hqk⟩ := (seg_mem hs).mp hqs
    have hsrt := seg_srt hs k
    rw [hseg] at hsrt
    have hlate : ∀ q', q' ∈ B → q.1 < q'.1 := (List.pairwise_cons.mp (List.pairwise_append.mp hsrt).2.1).1
    obtain ⟨a1, a2, a3, a4, a5⟩ := hb.fld hn hq
    have hj : too q.1 ≤ len := by
      refine hb.nx hn hq h1 (fun q' hq' h => hcl q' hq' ?_)
      rcases h with h | ⟨h, h'⟩
      · exact Or.inl (by omega)
      · right
        have hm : q' ∈ seg L k := (seg_mem hs).mpr ⟨hq', by omega⟩
        obtain ⟨b1, b2, b3, b4, b5⟩ := hb.fld hn hq'
        have hlt : q'.1 < q.1 := by
          rw [a5, b5]
          show pkA _ _ _ _ < pkA _ _ _ _
          unfold pkA
          omega
        rw [hseg] at hm
        rcases List.mem_append.mp hm with e | e
        · exact e
        · rcases List.mem_cons.mp e with e | e
          · rw [e] at hlt; omega
          · have := hlate q' e; omega
    have hseg' : seg L k = (A ++ [q]) ++ B := by rw [hseg, List.append_assoc]; rfl
    have step : ∃ l1, addN (List.range len) (too q.1) = List.range l1 ∧ len ≤ l1 ∧ l1 ≤ n ∧ too q.1 < l1 := by
      rcases Nat.lt_or_ge (too q.1) len with e | e
      · exact ⟨len, by unfold addN; rw [if_pos (List.mem_range.mpr e)], Nat.le_refl _, h2, e⟩
      · have e2 : too q.1 = len := by omega
        refine ⟨len + 1, ?_, by omega, by omega, by omega⟩
        unfold addN
        rw [if_neg (by rw [List.mem_range]; omega), List.range_succ, e2]
    obtain ⟨l1, s1, s2, s3, s4⟩ := step
    obtain ⟨l2, t1, t2, t3, t4⟩ := fold_id hb hn hs (k := k) B (A ++ [q]) l1 hseg' (by omega) s3 (fun q' hq' h => by
      rcases h with h | h
      · have := hcl q' hq' (Or.inl h); omega
      · rcases List.mem_append.mp h with h | h
        · have := hcl q' hq' (Or.inr h); omega
        · rw [List.mem_singleton.mp h]; exact s4)
    refine ⟨l2, ?_, by omega, t3, ?_⟩
    · show (B.map (fun q => too q.1)).foldl addN (addN (List.range len) (too q.1)) = _
      rw [s1]
      exact t1
    · intro q' hq' h
      exact t4 q' hq' (by
        rw [List.append_assoc]
        exact h)
theorem bfs_id (hb : DetB n L) (hn : n ≤ 32) (hs : Srt L) : ∀ (d k len : Nat), 1 ≤ len → len ≤ n → (∀ q, q ∈ L → fr q.1 < k → too q.1 < len) → ∃ len', bfs L d k (List.range len) = List.range len' ∧ len ≤ len' ∧ len' ≤ n ∧ ∀ q, q ∈ L → fr q.1 < k + d → fr q.1 < len' → too q.1 < len'
  | 0, k, len, h1, h2, hcl => ⟨len, rfl, Nat.le_refl _, h2, fun q hq h _ => hcl q hq h⟩
  | d + 1, k, len, h1, h2, hcl => by
    by_cases c : k < len
    · have hk : (List.range len)[k]? = some k := List.getElem?_range c
      have hbf : bfs L (d + 1) k (List.range len) = bfs L d (k + 1) ((outs L k).foldl addN (List.range len)) := by
        show (match (List.range len)[k]? with | none => _ | some s => bfs L d (k + 1) ((outs L s).foldl addN (List.range len))) = _
        rw [hk]
      obtain ⟨l1, s1, s2, s3, s4⟩ := fold_id hb hn hs (k := k) (seg L k) [] len rfl h1 h2 (fun q hq h => by
        rcases h with h | h
        · exact hcl q hq h
        · cases h)
      have s1 : (outs L k).foldl addN (List.range len) = List.range l1 := s1
      rw [hbf, s1]
      obtain ⟨l2, t1, t2, t3, t4⟩ := bfs_id hb hn hs d (k + 1) l1 (by omega) s3 (fun q hq h => s4 q hq (by
        by_cases e : fr q.1 < k
        · exact Or.inl e
        · exact Or.inr ((seg_mem hs).mpr ⟨hq, by omega⟩)))
      exact ⟨l2, t1, by omega, t3, fun q hq h h' => t4 q hq (by omega) h'⟩
    · have hk : (List.range len)[k]? = none := List.getElem?_eq_none (by rw [List.length_range]; omega)
      have hbf : bfs L (d + 1) k (List.range len) = List.range len := by
        show (match (List.range len)[k]? with | none => _ | some s => bfs L d (k + 1) ((outs L s).foldl addN (List.range len))) = _
        rw [hk]
      exact ⟨len, hbf, Nat.le_refl _, h2, fun q hq h h' => hcl q hq (by omega)⟩
theorem ord_id (hb : DetB n L) (h1 : 1 ≤ n) (hn : n ≤ 32) (hs : Srt L) : ordQ L 0 = List.range n := by
  obtain ⟨l, a1, a2, a3, a4⟩ := bfs_id hb hn hs 32 0 1 (Nat.le_refl _) h1 (fun q _ h => absurd h (Nat.not_lt_zero _))
  have := hb.all a2 (fun q hq h => a4 q hq (by omega) h)
  have e : l = n := by omega
  subst e
  exact a1
end BFSID
theorem cnt_all {b : Nat → Bool} : ∀ {n : Nat}, (∀ i, i < n → b i = true) → cnt b n = n
  | 0, _ => rfl
  | n + 1, h => by
    rw [cnt, if_pos (h n (by omega)), cnt_all (n := n) (fun i hi => h i (by omega))]
theorem made_id {M : Ma} (h : NF M) : Made M.1 0 M.2.1 M.2.2 (some M) := by
  obtain ⟨n, f, L⟩ := M
  have hdb := h.db
  obtain ⟨hV, hB, hf, hp, hd, h⟩ := h
  obtain ⟨v1, v2, v3, v4, v5, v6, v7⟩ := hV
  rcases h with ⟨rfl, h2, h3⟩ | ⟨h2, h3⟩
  · have h2 : L = [] := h2
    subst h2
    have hff : ∀ k, f k = false := fun k => Bool.eq_false_iff.mpr (fun hk => by
      have hk2 : k < 1 := hf k hk
      have : k = 0 := by omega
      rw [this] at hk
      have h3 : f 0 = false := h3
      rw [h3] at hk; cases hk)
    have hW : WS [] f 1 0 [] := ⟨by simp, fun s => ⟨fun h => (by cases h), fun ⟨_, _, e, _, he, _⟩ => by rw [hff e] at he; cases he⟩⟩
    obtain ⟨w1, w2, w3, w4⟩ := ord_none hW (by omega) (by simp)
    have hQ : outQ [] [] 0 = [0] := w3
    have hA : outA [] [] 0 = [] := rfl
    refine ⟨[], hW, Or.inr ⟨fun h => ?_, ?_⟩⟩
    · rcases h with h | h
      · exact absurd h (by simp)
      · rw [w2] at h; exact absurd h (by simp)
    · show some (1, f, []) = some ((outQ [] [] 0).length, mdE f (outQ [] [] 0), outA [] [] 0)
      rw [hA, hQ]
      have : mdE f [0] = f := by
        funext k
        unfold mdE endQ
        rw [hff, hff, Bool.and_false]
      rw [this]
      rfl
  · have hmem : ∀ s, s ∈ List.range n ↔ s < n := fun s => List.mem_range
    have hW : WS L f n 0 (List.range n) := by
      refine ⟨List.nodup_range, fun s => ?_⟩
      rw [hmem]
      refine ⟨fun hs => ⟨hs, hdb.rc s hs, ?_⟩, fun h => h.1⟩
      obtain ⟨w, _, P, e, p1, p2, p3, _⟩ := h2 s hs
      exact ⟨e, p2, p3, p1.rc⟩
    have hflt : L.filter (inW (List.range n)) = L := by
      refine List.filter_eq_self.mpr (fun q hq => inW_iff.mpr ?_)
      obtain ⟨a1, _, _, a4, _⟩ := hdb.fld v2 hq
      exact ⟨(hmem _).mpr a1, (hmem _).mpr a4⟩
    have hU : usA L (List.range n) = L := by
      show insL (L.filter (inW (List.range n))) [] = L
      rw [hflt]
      exact insL_id v4
    have hQ : outQ L (List.range n) 0 = List.range n := by
      show ordQ (usA L (List.range n)) 0 = _
      rw [hU]
      exact ord_id hdb v1 v2 v4
    have hix : ∀ s, s < n → ixo (List.range n) s = s := fun s hs => ixo_get List.nodup_range (List.getElem?_range hs)
    have hA : outA L (List.range n) 0 = L := by
      show insL ((usA L (List.range n)).map (reA (outQ L (List.range n) 0))) [] = L
      rw [hU, hQ, List.map_congr_left (g := id) (fun q hq => ?_), List.map_id]
      · exact insL_id v4
      · obtain ⟨s, x, t, rfl, b1, b2, b3⟩ := hp q hq
        have v2 : n ≤ 32 := v2
        have b1 : s < n := b1
        have b3 : t < n := b3
        obtain ⟨x1, x2, x3, x4⟩ := dr_fld (s := s) (c := 0) (show x < 16 by omega) (show x < 16 by omega) (show t < 1024 by omega)
        show (pkA (ixo (List.range n) (fr (pkA s x x t, 0).1)) (upr (pkA s x x t, 0).1) (lwr (pkA s x x t, 0).1) (ixo (List.range n) (too (pkA s x x t, 0).1)), 0) = (pkA s x x t, 0)
        rw [x1, x2, x3, x4, hix s b1, hix t b3]
    refine ⟨List.range n, hW, Or.inr ⟨fun h => ?_, ?_⟩⟩
    · rcases h with h | h
      · rw [List.length_range] at h
        have v2 : n ≤ 32 := v2
        omega
      · rw [hU] at h
        have v3 : L.length ≤ 160 := v3
        omega
    · show some (n, f, L) = some ((outQ L (List.range n) 0).length, mdE f (outQ L (List.range n) 0), outA L (List.range n) 0)
      rw [hA, hQ, List.length_range]
      have : mdE f (List.range n) = f := by
        funext k
        unfold mdE endQ
        rw [List.length_range]
        by_cases c : k < n
        · rw [decide_eq_true c, List.getD_eq_getElem?_getD, List.getElem?_range c]
          rfl
        · rw [decide_eq_false c, Bool.false_and]
          exact (Bool.eq_false_iff.mpr (fun hk => c (hf k hk))).symm
      rw [this]
/-- the least machine of a least machine is that machine -/
theorem set_id {M : Ma} {s : XS} {d : Nat → Nat → Option Nat} {wa u : Nat → Bool} {o : Option Ma} (hM : NF M) (hex : exF 0 M.2.2 M.2.2 = some s) (hd : DOf s d) (hwa : wa = waf (wnW 0) (eB M.2.1 M.1) (nI 0) s.1) (hu : UOf d wa s.1.length u) (h : SetO s.1.length d wa u o) : o = some M := by
  have hid := made_id hM
  obtain ⟨n, f, L⟩ := M
  have hdb := hM.db
  obtain ⟨hV, hB, hf, hp, hdet, hM⟩ := hM
  obtain ⟨v1, v2, v3, v4, v5, v6, v7⟩ := hV
  have v1 : 1 ≤ n := v1
  have v2 : n ≤ 32 := v2
  have hf : ∀ k, f k = true → k < n := hf
  have hp : ∀ q, q ∈ L → ∃ s x t, q = (pkA s x x t, 0) ∧ s < n ∧ x < 8 ∧ t < n := hp
  have hdb : DetB n L := hdb
  have v5 : DOK n L := v5
  have hex : exF 0 L L = some s := hex
  have hwa : wa = waf (wnW 0) (eB f n) (nI 0) s.1 := hwa
  obtain ⟨⟨s', e1, e2⟩, -⟩ := exF_id hdb v5 v1 v2
  have es : s = s' := Option.some.inj (hex.symm.trans e1)
  subst es
  have hl : s.1.length = n := by rw [e2, List.length_map, List.length_range]
  have hS : ∀ k, k < n → Sk s k = bt k := by
    intro k hk
    show (s.1.getD k (nI 0, nI 0)).1 = _
    rw [List.getD_eq_getElem?_getD, e2, rm_get hk]
    rfl
  have hdc : ∀ k x y, k < s.1.length → x < 8 → d k x = some y → y < s.1.length := fun k x y hk hx h => (hd k x hk hx).2 y h
  have hdq : ∀ q, q ∈ L → d (fr q.1) (upr q.1) = some (too q.1) := by
    intro q hq
    obtain ⟨a1, a2, a3, a4, a5⟩ := hdb.fld v2 hq
    rcases ex_tr hex hd (k := fr q.1) (x := upr q.1) (by omega) a2 with ⟨_, b2⟩ | ⟨j, b1, b2, b3⟩
    · rw [hS _ a1, mst_bt hdb v5 v2 hq] at b2
      exact absurd b2 (bt_ne (by omega))
    · rw [hS _ (by omega), hS _ a1, mst_bt hdb v5 v2 hq] at b3
      rw [b2, bt_inj (by omega) (by omega) b3]
  have hdn : ∀ k x j, k < n → x < 8 → d k x = some j → ∃ q, q ∈ L ∧ fr q.1 = k ∧ upr q.1 = x ∧ too q.1 = j := by
    intro k x j hk hx hj
    by_cases c : ∃ q, q ∈ L ∧ fr q.1 = k ∧ upr q.1 = x
    · obtain ⟨q, a1, rfl, rfl⟩ := c
      have := hdq q a1
      rw [hj] at this
      exact ⟨q, a1, rfl, rfl, (Option.some.inj this).symm⟩
    · rcases ex_tr hex hd (k := k) (x := x) (by omega) hx with ⟨b1, _⟩ | ⟨j', b1, b2, b3⟩
      · rw [b1] at hj; cases hj
      · rw [hS _ (by omega), hS _ hk, mst_bn hdb v5 v2 (by omega) (fun q h1 h2 h3 => c ⟨q, h1, h2, h3⟩)] at b3
        exact absurd b3 (bt_ne (by omega))
  have hwk : ∀ k, k < n → wa k = f k := by
    intro k hk
    rw [waf_0 hwa k, hS k hk]
    cases hfk : f k with
    | true =>
      refine decide_eq_true (fun h => and_ne.mp h k (by omega) ⟨by rw [bt_tb (by omega) (by omega)]; exact decide_eq_true rfl, by rw [tb_eBin v2 hk]; exact hfk⟩)
    | false =>
      refine decide_eq_false (fun h => h (and_ne.mpr (fun i hi hh => ?_)))
      rw [bt_tb (by omega) hi, decide_eq_true_iff] at hh
      rw [hh.1, tb_eBin v2 hk, hfk] at hh
      cases hh.2
  have h8 : ∀ q, q ∈ L → upr q.1 ≠ 8 := fun q hq => by have := (hdb.fld v2 hq).2.1; omega
  have hac : ∀ (w : List Nat) (i : Nat), (∀ x, x ∈ w → x < 8) → i < n → (acD d wa i w = true ↔ LangF i n f L w) := by
    intro w
    induction w with
    | nil =>
      intro i _ hi
      rw [lf_nil h8]
      show wa i = true ↔ _
      rw [hwk i hi]
      exact ⟨fun h => ⟨hi, h⟩, fun h => h.2⟩
    | cons x w ih =>
      intro i hw hi
      have hx := hw x List.mem_cons_self
      have hw' : ∀ y, y ∈ w → y < 8 := fun y hy => hw y (List.mem_cons_of_mem _ hy)
      rw [lf_cons h8]
      constructor
      · intro ha
        cases e : d i x with
        | none => rw [acD_n e] at ha; cases ha
        | some j =>
          rw [acD_c e] at ha
          obtain ⟨q, a1, a2, a3, a4⟩ := hdn i x j hi hx e
          refine ⟨q, a1, a2, a3, (ih _ hw' (hdb.fld v2 a1).2.2.2.1).mp (by rw [a4]; exact ha)⟩
      · rintro ⟨q, a1, a2, a3, a4⟩
        have e := hdq q a1
        rw [a2, a3] at e
        rw [acD_c e]
        exact (ih _ hw' (hdb.fld v2 a1).2.2.2.1).mpr a4
  rw [hl] at hu hdc
  rw [hl] at h
  rcases hM with ⟨h1, h2, h3⟩ | ⟨h2, h3⟩
  · have h1 : n = 1 := h1
    subst h1
    have h2 : L = [] := h2
    subst h2
    have h3 : f 0 = false := h3
    have hff : ∀ k, f k = false := fun k => Bool.eq_false_iff.mpr (fun hk => by
      have hk2 := hf k hk
      have : k = 0 := by omega
      rw [this, h3] at hk
      cases hk)
    have u0 : u 0 = false := Bool.eq_false_iff.mpr (fun h0 => by
      obtain ⟨w, hw, ha⟩ := u_ac hu h0
      obtain ⟨P, t, _, _, p3, _⟩ := (hac w 0 hw (by omega)).mp ha
      rw [hff] at p3; cases p3)
    rcases h with ⟨_, h⟩ | ⟨t, mem, g0, h, _⟩ | ⟨h, _⟩
    · exact Made.uq h hid (fun _ => Iff.rfl) (by omega) (show 0 < 1 by omega) (fun q hq => by cases hq) (fun q hq => (by cases hq)) (fun k _ _ => (hff k).symm)
    · rw [h.1] at u0; cases u0
    · rw [h] at u0; cases u0
  · have hul : ∀ i, i < n → u i = true := by
      intro i hi
      obtain ⟨w, hw, hl⟩ := h2 i hi
      exact ac_u hu hdc w i hw hi ((hac w i hw hi).mpr hl)
    rcases h with ⟨h, _⟩ | ⟨t, mem, g0, ⟨_, c1, c2, c3, c4, c5⟩, h⟩ | ⟨_, ⟨t, h⟩, _⟩
    · rw [hul 0 (by omega)] at h; cases h
    · have hinj : ∀ i j, i < n → j < n → Gs d wa u (t + 2) i = Gs d wa u (t + 2) j → i = j := by
        intro i j hi hj he
        refine Classical.byContradiction fun hij => ?_
        obtain ⟨w, hw, hne⟩ := h3 i j hi hj hij
        refine hne ?_
        show LangF i n f L w ↔ LangF j n f L w
        rw [← hac w i hw hi, ← hac w j hw hj, eqv_ac hu hdc c1 w i j hw ⟨hi, hj, hul i hi, hul j hj, he⟩]
      have hnw : ∀ i, i < n → nwF (sgC d (Gs d wa u (t + 1))) u i = true := by
        intro i hi
        refine nw_iff'.mpr ⟨hul i hi, fun j hj uj he => ?_⟩
        have : Gs d wa u (t + 2) j = Gs d wa u (t + 2) i := by
          show (if u j = true then some (nmF (sgC d (Gs d wa u (t + 1))) u j) else none) = (if u i = true then some (nmF (sgC d (Gs d wa u (t + 1))) u i) else none)
          rw [if_pos uj, if_pos (hul i hi), (nm_eq uj (hul i hi)).mpr he]
        have := hinj j i (by omega) hi this
        omega
      have hF : Fc d wa u n (t + 2) = n := cnt_all hnw
      have hmem : ∀ g, g < n → mem g = g := by
        intro g hg
        obtain ⟨a1, a2, a3⟩ := c4 g (by rw [hF]; exact hg)
        rw [cnt_all (fun i hi => hnw i (by omega))] at a3
        exact a3
      have hG : ∀ i, i < n → Gs d wa u (t + 2) i = some i := by
        intro i hi
        have := (mem_u c4 (g := i) (by rw [hF]; exact hi)).2.2
        rw [hmem i hi] at this
        exact this
      rw [hG 0 (by omega)] at c5
      have e0 := Option.some.inj c5
      subst e0
      have hok := dr_af c3 hu hdc c4
      rw [hF] at h hok
      refine Made.uq h hid (fun q => ?_) (by omega) v1 hok v5 (fun k hk _ => ?_)
      · rw [drD_mem]
        constructor
        · rintro ⟨g, x, j, y, b1, b2, b3, b4, rfl⟩
          rw [hmem g b1] at b3
          obtain ⟨q, q1, q2, q3, q4⟩ := hdn g x j b1 b2 b3
          have hj := (hdb.fld v2 q1).2.2.2.1
          rw [hG j (by omega)] at b4
          have e := (hdb.fld v2 q1).2.2.2.2
          rw [q2, q3, q4] at e
          rw [← Option.some.inj b4, ← e]
          exact q1
        · intro hq
          obtain ⟨a1, a2, a3, a4, a5⟩ := hdb.fld v2 hq
          exact ⟨fr q.1, upr q.1, too q.1, too q.1, a1, a2, by rw [hmem _ a1]; exact hdq q hq, hG _ a4, a5⟩
      · show (decide (k < n) && wa (mem k)) = f k
        rw [decide_eq_true hk, hmem k hk, hwk k hk]
        rfl
    · have := cnt_le (nwF (sgC d (Gs d wa u t)) u) n
      have h : 33 ≤ cnt (nwF (sgC d (Gs d wa u t)) u) n := h
      omega
