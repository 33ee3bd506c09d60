def Ren (φ : Nat → Nat) (n n' : Nat) : Prop := (∀ a b, a < b → b < n → φ a < φ b) ∧ ∀ a, a < n → φ a < n'
def renA (φ : Nat → Nat) (q : Nat × Nat) : Nat × Nat := (pkA (φ (fr q.1)) (upr q.1) (lwr q.1) (φ (too q.1)), q.2)
theorem Ren.tri {φ : Nat → Nat} {n n' a b : Nat} (h : Ren φ n n') (ha : a < n) (hb : b < n) : (a < b ∧ φ a < φ b) ∨ (a = b ∧ φ a = φ b) ∨ (b < a ∧ φ b < φ a) := by
  rcases Nat.lt_trichotomy a b with h1 | h1 | h1
  · exact Or.inl ⟨h1, h.1 a b h1 hb⟩
  · exact Or.inr (Or.inl ⟨h1, by rw [h1]⟩)
  · exact Or.inr (Or.inr ⟨h1, h.1 b a h1 ha⟩)
theorem Ren.inj {φ : Nat → Nat} {n n' a b : Nat} (h : Ren φ n n') (ha : a < n) (hb : b < n) (e : φ a = φ b) : a = b := by
  rcases h.tri ha hb with h1 | h1 | h1 <;> omega
theorem ren_fld {φ : Nat → Nat} {n n' : Nat} {q : Nat × Nat} (h : Ren φ n n') (hn : n' ≤ 1024) (hq : AOK n q) : fr (renA φ q).1 = φ (fr q.1) ∧ upr (renA φ q).1 = upr q.1 ∧ lwr (renA φ q).1 = lwr q.1 ∧ too (renA φ q).1 = φ (too q.1) := by
  have h1 := h.2 _ hq.2.1
  have h2 := h.2 _ hq.2.2.1
  have u := hq.2.2.2.1
  have l := hq.2.2.2.2.1
  exact ⟨pkA_from (by omega) (by omega) (by omega), pkA_upper (by omega) (by omega) (by omega), pkA_lower (by omega) (by omega), pkA_to (by omega)⟩
theorem ren_ok {φ : Nat → Nat} {n n' : Nat} {q : Nat × Nat} (h : Ren φ n n') (hn : n' ≤ 1024) (hq : AOK n q) : AOK n' (renA φ q) :=
  AOK.mk hn (h.2 _ hq.2.1) hq.2.2.2.1 hq.2.2.2.2.1 (h.2 _ hq.2.2.1) hq.2.2.2.2.2
theorem ren_lt {φ : Nat → Nat} {n n' : Nat} {a b : Nat × Nat} (h : Ren φ n n') (hn : n' ≤ 1024) (ha : AOK n a) (hb : AOK n b) : (renA φ a).1 < (renA φ b).1 ↔ a.1 < b.1 := by
  have t1 := h.tri ha.2.1 hb.2.1
  have t2 := h.tri ha.2.2.1 hb.2.2.1
  have b1 := h.2 _ ha.2.2.1
  have b2 := h.2 _ hb.2.2.1
  have u1 : a.1 / 16384 % 16 ≤ 8 := ha.2.2.2.1
  have l1 : a.1 / 1024 % 16 ≤ 8 := ha.2.2.2.2.1
  have u2 : b.1 / 16384 % 16 ≤ 8 := hb.2.2.2.1
  have l2 : b.1 / 1024 % 16 ≤ 8 := hb.2.2.2.2.1
  show pkA (φ (a.1 / 262144)) (a.1 / 16384 % 16) (a.1 / 1024 % 16) (φ (a.1 % 1024)) < pkA (φ (b.1 / 262144)) (b.1 / 16384 % 16) (b.1 / 1024 % 16) (φ (b.1 % 1024)) ↔ _
  have t1 : (a.1 / 262144 < b.1 / 262144 ∧ φ (a.1 / 262144) < φ (b.1 / 262144)) ∨ (a.1 / 262144 = b.1 / 262144 ∧ φ (a.1 / 262144) = φ (b.1 / 262144)) ∨ (b.1 / 262144 < a.1 / 262144 ∧ φ (b.1 / 262144) < φ (a.1 / 262144)) := t1
  have t2 : (a.1 % 1024 < b.1 % 1024 ∧ φ (a.1 % 1024) < φ (b.1 % 1024)) ∨ (a.1 % 1024 = b.1 % 1024 ∧ φ (a.1 % 1024) = φ (b.1 % 1024)) ∨ (b.1 % 1024 < a.1 % 1024 ∧ φ (b.1 % 1024) < φ (a.1 % 1024)) := t2
  have b1 : φ (a.1 % 1024) < n' := b1
  have b2 : φ (b.1 % 1024) < n' := b2
  obtain ⟨x1, hx1⟩ : ∃ x, x = φ (a.1 / 262144) := ⟨_, rfl⟩
  obtain ⟨x2, hx2⟩ : ∃ x, x = φ (b.1 / 262144) := ⟨_, rfl⟩
  obtain ⟨y1, hy1⟩ : ∃ x, x = φ (a.1 % 1024) := ⟨_, rfl⟩
  obtain ⟨y2, hy2⟩ : ∃ x, x = φ (b.1 % 1024) := ⟨_, rfl⟩
  rw [← hx1, ← hx2] at t1
  rw [← hy1, ← hy2] at t2
  rw [← hy1] at b1
  rw [← hy2] at b2
  rw [← hx1, ← hx2, ← hy1, ← hy2]
  unfold pkA
  rcases t1 with t1 | t1 | t1
  · omega
  · rcases t2 with t2 | t2 | t2 <;> omega
  · omega
theorem ren_eq {φ : Nat → Nat} {n n' : Nat} {a b : Nat × Nat} (h : Ren φ n n') (hn : n' ≤ 1024) (ha : AOK n a) (hb : AOK n b) (e : (renA φ a).1 = (renA φ b).1) : a.1 = b.1 := by
  have h1 := ren_lt h hn ha hb
  have h2 := ren_lt h hn hb ha
  rw [e] at h1 h2
  have := Nat.lt_irrefl (renA φ b).1
  rcases Nat.lt_trichotomy a.1 b.1 with h | h | h
  · exact absurd (h1.mpr h) this
  · exact h
  · exact absurd (h2.mpr h) this
theorem usA_ren {φ : Nat → Nat} {n n' : Nat} {D D' : ArL} {W : List Nat} (h : Ren φ n n') (hn : n' ≤ 1024) (hok : DOK n D) (hW : ∀ s, s ∈ W → s < n) (hD : ∀ q, q ∈ D' ↔ ∃ a, a ∈ D ∧ q = renA φ a) : usA D' (W.map φ) = (usA D W).map (renA φ) := by
  have hin : ∀ s, s < n → (φ s ∈ W.map φ ↔ s ∈ W) := by
    intro s hs
    rw [List.mem_map]
    constructor
    · rintro ⟨t, ht, e⟩
      rw [← h.inj (hW t ht) hs e]; exact ht
    · intro hs2; exact ⟨s, hs2, rfl⟩
  have hS : ∀ p k, (p, k) ∈ D'.filter (inW (W.map φ)) ↔ ∃ a, a ∈ D.filter (inW W) ∧ (p, k) = renA φ a := by
    intro p k
    rw [List.mem_filter, hD, inW_iff]
    constructor
    · rintro ⟨⟨a, ha, e⟩, h1, h2⟩
      have hao := hok a ha
      obtain ⟨f1, _, _, f4⟩ := ren_fld h hn hao
      rw [e, f1] at h1
      rw [e, f4] at h2
      exact ⟨a, List.mem_filter.mpr ⟨ha, inW_iff.mpr ⟨(hin _ hao.2.1).mp h1, (hin _ hao.2.2.1).mp h2⟩⟩, e⟩
    · rintro ⟨a, ha, e⟩
      obtain ⟨ha, hw⟩ := List.mem_filter.mp ha
      have hao := hok a ha
      obtain ⟨f1, _, _, f4⟩ := ren_fld h hn hao
      obtain ⟨w1, w2⟩ := inW_iff.mp hw
      rw [e, f1, f4]
      exact ⟨⟨a, ha, rfl⟩, (hin _ hao.2.1).mpr w1, (hin _ hao.2.2.1).mpr w2⟩
  refine Cn.uq (S := fun p k => (p, k) ∈ D'.filter (inW (W.map φ))) (Cn.ofL _) ⟨?_, ?_⟩
  · refine List.pairwise_map.mpr ((insL_srt (D.filter (inW W))).imp_of_mem ?_)
    intro a b ha hb hab
    exact (ren_lt h hn (hok a (usA_of (W := W) ha).1) (hok b (usA_of (W := W) hb).1)).mpr hab
  · intro p k
    show (p, k) ∈ List.map (renA φ) (usA D W) ↔ (p, k) ∈ D'.filter (inW (W.map φ)) ∧ ∀ k', (p, k') ∈ D'.filter (inW (W.map φ)) → k ≤ k'
    rw [hS, List.mem_map]
    constructor
    · rintro ⟨a, ha, e⟩
      have ha2 := ((Cn.ofL (D.filter (inW W))).2 a.1 a.2).mp ha
      refine ⟨⟨a, ha2.1, e.symm⟩, fun k' hk' => ?_⟩
      obtain ⟨b, hb, e2⟩ := (hS p k').mp hk'
      have hb1 := (List.mem_filter.mp hb).1
      have ek : k = a.2 := (congrArg Prod.snd e).symm
      have ek' : k' = b.2 := congrArg Prod.snd e2
      have ep1 : (renA φ a).1 = p := congrArg Prod.fst e
      have ep2 : p = (renA φ b).1 := congrArg Prod.fst e2
      have ep : (renA φ a).1 = (renA φ b).1 := ep1.trans ep2
      have e3 := ren_eq h hn (hok a (usA_of (W := W) ha).1) (hok b hb1) ep
      rw [ek, ek']
      exact ha2.2 b.2 (by rw [e3]; exact hb)
    · rintro ⟨⟨a, ha, e⟩, hmin⟩
      refine ⟨a, ((Cn.ofL (D.filter (inW W))).2 a.1 a.2).mpr ⟨ha, fun k' hk' => ?_⟩, e.symm⟩
      have ek : k = a.2 := congrArg Prod.snd e
      rw [← ek]
      exact hmin k' ((hS p k').mpr ⟨(a.1, k'), hk', Prod.ext (show p = (renA φ a).1 from congrArg Prod.fst e) rfl⟩)
theorem lb_ren {φ : Nat → Nat} {n n' s t : Nat} {U : ArL} (h : Ren φ n n') (hn : n' ≤ 1024) (hok : DOK n U) (hs : ∀ x, x < n → (φ x < t ↔ x < s)) : lb (U.map (renA φ)) (pkA t 0 0 0) = lb U (pkA s 0 0 0) := by
  unfold lb
  rw [List.countP_map]
  apply List.countP_congr
  intro q hq
  have hqo := hok q hq
  have hb := h.2 _ hqo.2.2.1
  have u : q.1 / 16384 % 16 ≤ 8 := hqo.2.2.2.1
  have l : q.1 / 1024 % 16 ≤ 8 := hqo.2.2.2.2.1
  have h1 := hs (q.1 / 262144) hqo.2.1
  have hb : φ (q.1 % 1024) < n' := hb
  show decide ((renA φ q).1 < pkA t 0 0 0) = true ↔ decide (q.1 < pkA s 0 0 0) = true
  rw [decide_eq_true_eq, decide_eq_true_eq]
  show pkA (φ (q.1 / 262144)) (q.1 / 16384 % 16) (q.1 / 1024 % 16) (φ (q.1 % 1024)) < pkA t 0 0 0 ↔ q.1 < pkA s 0 0 0
  obtain ⟨x1, hx1⟩ : ∃ x, x = φ (q.1 / 262144) := ⟨_, rfl⟩
  obtain ⟨y1, hy1⟩ : ∃ x, x = φ (q.1 % 1024) := ⟨_, rfl⟩
  rw [← hx1] at h1
  rw [← hy1] at hb
  rw [← hx1, ← hy1]
  unfold pkA
  omega
theorem outs_ren {φ : Nat → Nat} {n n' s : Nat} {U : ArL} (h : Ren φ n n') (hn : n' ≤ 1024) (hok : DOK n U) (hs : s < n) : outs (U.map (renA φ)) (φ s) = (outs U s).map φ := by
  unfold outs seg segA
  rw [lb_ren h hn hok (s := s) (t := φ s) (fun x hx => by rcases h.tri hx hs with e | e | e <;> omega), lb_ren h hn hok (s := s + 1) (t := φ s + 1) (fun x hx => by rcases h.tri hx hs with e | e | e <;> omega)]
  rw [← List.map_take, ← List.map_drop, List.map_map, List.map_map]
  apply List.map_congr_left
  intro q hq
  have hq2 : q ∈ U := List.mem_of_mem_take (List.mem_of_mem_drop hq)
  exact (ren_fld h hn (hok q hq2)).2.2.2
theorem addN_ren {φ : Nat → Nat} {n n' t : Nat} {Q : List Nat} (h : Ren φ n n') (hQ : ∀ s, s ∈ Q → s < n) (ht : t < n) : addN (Q.map φ) (φ t) = (addN Q t).map φ := by
  unfold addN
  by_cases c : t ∈ Q
  · rw [if_pos c, if_pos (List.mem_map.mpr ⟨t, c, rfl⟩)]
  · rw [if_neg c, if_neg, List.map_append]
    · rfl
    · intro hc
      obtain ⟨x, hx, e⟩ := List.mem_map.mp hc
      exact c (by rw [← h.inj (hQ x hx) ht e]; exact hx)
theorem fold_ren {φ : Nat → Nat} {n n' : Nat} (h : Ren φ n n') : ∀ (T Q : List Nat), (∀ s, s ∈ Q → s < n) → (∀ s, s ∈ T → s < n) → (T.map φ).foldl addN (Q.map φ) = (T.foldl addN Q).map φ ∧ ∀ s, s ∈ T.foldl addN Q → s < n
  | [], Q, hQ, _ => ⟨rfl, hQ⟩
  | t :: T, Q, hQ, hT => by
    have ht := hT t (List.mem_cons_self ..)
    have h2 : ∀ s, s ∈ addN Q t → s < n := fun s hs => by
      rcases addN_mem.mp hs with e | e
      · exact hQ s e
      · rw [e]; exact ht
    have ih := fold_ren h T (addN Q t) h2 (fun s hs => hT s (List.mem_cons_of_mem _ hs))
    rw [List.map_cons, List.foldl_cons, List.foldl_cons, addN_ren h hQ ht]
    exact ih
theorem bfs_ren {φ : Nat → Nat} {n n' : Nat} {U : ArL} (h : Ren φ n n') (hn : n' ≤ 1024) (hok : DOK n U) : ∀ (f i : Nat) (Q : List Nat), (∀ s, s ∈ Q → s < n) → bfs (U.map (renA φ)) f i (Q.map φ) = (bfs U f i Q).map φ
  | 0, _, _, _ => rfl
  | f + 1, i, Q, hQ => by
    show (match (Q.map φ)[i]? with | none => Q.map φ | some s => bfs (U.map (renA φ)) f (i + 1) ((outs (U.map (renA φ)) s).foldl addN (Q.map φ))) = List.map φ (match Q[i]? with | none => Q | some s => bfs U f (i + 1) ((outs U s).foldl addN Q))
    rw [List.getElem?_map]
    cases hq : Q[i]? with
    | none => rfl
    | some s =>
      have hs := hQ s (List.mem_of_getElem? hq)
      show bfs (U.map (renA φ)) f (i + 1) ((outs (U.map (renA φ)) (φ s)).foldl addN (Q.map φ)) = List.map φ (bfs U f (i + 1) ((outs U s).foldl addN Q))
      rw [outs_ren h hn hok hs]
      have h2 := fold_ren h (outs U s) Q hQ (fun t ht => by
        unfold outs seg at ht
        obtain ⟨a, ha, rfl⟩ := List.mem_map.mp ht
        exact (hok a (List.mem_of_mem_take (List.mem_of_mem_drop ha))).2.2.1)
      rw [h2.1]
      exact bfs_ren h hn hok f (i + 1) _ h2.2
theorem ixo_ren {φ : Nat → Nat} {n n' : Nat} (h : Ren φ n n') : ∀ (Q : List Nat) (s : Nat), (∀ x, x ∈ Q → x < n) → s ∈ Q → ixo (Q.map φ) (φ s) = ixo Q s
  | [], s, _, hs => by cases hs
  | x :: Q, s, hQ, hs => by
    have hx := hQ x (List.mem_cons_self ..)
    have hsn := hQ s hs
    rw [List.map_cons]
    unfold ixo
    by_cases e : x = s
    · rw [if_pos e, if_pos (by rw [e])]
    · rw [if_neg e, if_neg (fun e2 => e (h.inj hx hsn e2))]
      rcases List.mem_cons.mp hs with e2 | e2
      · exact absurd e2.symm e
      · rw [ixo_ren h Q s (fun y hy => hQ y (List.mem_cons_of_mem _ hy)) e2]
