def Rc (R : Nat → Nat → Prop) (a b : Nat) : Prop := ∀ P : Nat → Prop, P a → (∀ x y, P x → R x y → P y) → P b
theorem Rc.rf {R : Nat → Nat → Prop} {a : Nat} : Rc R a a := fun _ h _ => h
theorem Rc.st {R : Nat → Nat → Prop} {a b c : Nat} (h : Rc R a b) (h2 : R b c) : Rc R a c := fun P ha hs => hs b c (h P ha hs) h2
theorem Rc.tr {R : Nat → Nat → Prop} {a b c : Nat} (h : Rc R a b) (h2 : Rc R b c) : Rc R a c := h2 (fun x => Rc R a x) h (fun _ _ hx hr => hx.st hr)
theorem Rc.hd {R : Nat → Nat → Prop} {a b c : Nat} (h : R a b) (h2 : Rc R b c) : Rc R a c := (Rc.rf.st h).tr h2
theorem Rc.cl {R : Nat → Nat → Prop} {S : Nat → Prop} {a b : Nat} (h : Rc R a b) (ha : S a) (hs : ∀ x y, S x → R x y → S y) : S b := h S ha hs
theorem Rc.rev {R : Nat → Nat → Prop} {a b : Nat} (h : Rc R a b) : Rc (fun x y => R y x) b a := by
  refine h (fun x => Rc (fun x y => R y x) x a) Rc.rf ?_
  intro x y hx hr
  exact Rc.hd (R := fun x y => R y x) hr hx
theorem Rc.mono {R R' : Nat → Nat → Prop} {a b : Nat} (h : Rc R a b) (hm : ∀ x y, R x y → R' x y) : Rc R' a b := fun P ha hs => h P ha (fun x y hx hr => hs x y hx (hm x y hr))
theorem nodup_le : ∀ (Q W : List Nat), Q.Nodup → (∀ x, x ∈ Q → x ∈ W) → Q.length ≤ W.length
  | [], _, _, _ => Nat.zero_le _
  | x :: Q, W, hn, hs => by
    have h1 := List.nodup_cons.mp hn
    have hx : x ∈ W := hs x (List.mem_cons_self ..)
    have h2 := nodup_le Q (W.erase x) h1.2 (fun y hy => (List.mem_erase_of_ne (fun e => h1.1 (by rw [← e]; exact hy))).mpr (hs y (List.mem_cons_of_mem _ hy)))
    rw [List.length_erase_of_mem hx] at h2
    have h3 := List.length_pos_of_mem hx
    rw [List.length_cons]
    omega
theorem nodup_bound {Q : List Nat} {n : Nat} (h : Q.Nodup) (hb : ∀ x, x ∈ Q → x < n) : Q.length ≤ n := by
  have := nodup_le Q (List.range n) h (fun x hx => List.mem_range.mpr (hb x hx))
  rwa [List.length_range] at this
theorem nodup_snoc {Q : List Nat} {t : Nat} (h : Q.Nodup) (ht : ¬ t ∈ Q) : (Q ++ [t]).Nodup := by
  rw [List.nodup_append]
  refine ⟨h, by simp, ?_⟩
  intro x hx y hy
  rw [List.mem_singleton] at hy
  rintro rfl
  exact ht (hy ▸ hx)
abbrev ArL : Type := List (Nat × Nat)
def Srt (L : ArL) : Prop := L.Pairwise (fun x y => x.1 < y.1)
def Cn (S : Nat → Nat → Prop) (L : ArL) : Prop := Srt L ∧ ∀ p k, (p, k) ∈ L ↔ S p k ∧ ∀ k', S p k' → k ≤ k'
theorem srt_ext : ∀ (L L' : ArL), Srt L → Srt L' → (∀ q, q ∈ L ↔ q ∈ L') → L = L'
  | [], [], _, _, _ => rfl
  | [], y :: L', _, _, h => by have := (h y).mpr (List.mem_cons_self ..); cases this
  | x :: L, [], _, _, h => by have := (h x).mp (List.mem_cons_self ..); cases this
  | x :: L, y :: L', h1, h2, h => by
    have a1 := List.pairwise_cons.mp h1
    have a2 := List.pairwise_cons.mp h2
    have e : x = y := by
      rcases List.mem_cons.mp ((h x).mp (List.mem_cons_self ..)) with e | e
      · exact e
      · rcases List.mem_cons.mp ((h y).mpr (List.mem_cons_self ..)) with e2 | e2
        · exact e2.symm
        · have b1 := a1.1 y e2
          have b2 := a2.1 x e
          omega
    subst e
    rw [srt_ext L L' a1.2 a2.2 ?_]
    intro q
    constructor
    · intro hq
      rcases List.mem_cons.mp ((h q).mp (List.mem_cons_of_mem _ hq)) with e | e
      · have := a1.1 q hq; rw [e] at this; omega
      · exact e
    · intro hq
      rcases List.mem_cons.mp ((h q).mpr (List.mem_cons_of_mem _ hq)) with e | e
      · have := a2.1 q hq; rw [e] at this; omega
      · exact e
theorem Cn.uq {S : Nat → Nat → Prop} {L L' : ArL} (h : Cn S L) (h' : Cn S L') : L = L' := srt_ext L L' h.1 h'.1 (fun q => (h.2 q.1 q.2).trans (h'.2 q.1 q.2).symm)
theorem Cn.congr {S S' : Nat → Nat → Prop} {L : ArL} (h : Cn S L) (e : ∀ p k, S p k ↔ S' p k) : Cn S' L := by
  have : S = S' := funext fun p => funext fun k => propext (e p k)
  rwa [← this]
theorem Srt.inj {L : ArL} (h : Srt L) {p k k' : Nat} (h1 : (p, k) ∈ L) (h2 : (p, k') ∈ L) : k = k' := by
  induction L with
  | nil => cases h1
  | cons x L ih =>
    have a := List.pairwise_cons.mp h
    rcases List.mem_cons.mp h1 with e | e <;> rcases List.mem_cons.mp h2 with e2 | e2
    · rw [← e] at e2; exact (Prod.mk.inj e2).2.symm
    · have := a.1 _ e2; rw [← e] at this; exact absurd this (Nat.lt_irrefl _)
    · have := a.1 _ e; rw [← e2] at this; exact absurd this (Nat.lt_irrefl _)
    · exact ih a.2 e e2
def insR : ArL → Nat → Nat → ArL
  | [], p, k => [(p, k)]
  | q :: L, p, k => if p < q.1 then (p, k) :: q :: L else if p = q.1 then (p, min k q.2) :: L else q :: insR L p k
theorem insR_key : ∀ (L : ArL) (p k : Nat) (q : Nat × Nat), q ∈ insR L p k → q.1 = p ∨ q ∈ L
  | [], p, k, q, h => by rw [insR, List.mem_singleton] at h; exact Or.inl (by rw [h])
  | x :: L, p, k, q, h => by
    rw [insR] at h
    split at h
    · rcases List.mem_cons.mp h with e | e
      · exact Or.inl (by rw [e])
      · exact Or.inr e
    · split at h
      · rcases List.mem_cons.mp h with e | e
        · exact Or.inl (by rw [e])
        · exact Or.inr (List.mem_cons_of_mem _ e)
      · rcases List.mem_cons.mp h with e | e
        · exact Or.inr (by rw [e]; exact List.mem_cons_self ..)
        · rcases insR_key L p k q e with e | e
          · exact Or.inl e
          · exact Or.inr (List.mem_cons_of_mem _ e)
theorem insR_srt : ∀ (L : ArL) (p k : Nat), Srt L → Srt (insR L p k)
  | [], p, k, _ => List.pairwise_singleton ..
  | x :: L, p, k, h => by
    have a := List.pairwise_cons.mp h
    rw [insR]
    split
    · rename_i hlt
      refine List.pairwise_cons.mpr ⟨?_, h⟩
      intro y hy
      rcases List.mem_cons.mp hy with e | e
      · rw [e]; exact hlt
      · exact Nat.lt_trans hlt (a.1 y e)
    · rename_i hge
      split
      · rename_i he
        exact List.pairwise_cons.mpr ⟨fun y hy => by have := a.1 y hy; show p < y.1; omega, a.2⟩
      · rename_i hne
        refine List.pairwise_cons.mpr ⟨?_, insR_srt L p k a.2⟩
        intro y hy
        rcases insR_key L p k y hy with e | e
        · omega
        · exact a.1 y e
theorem insR_oth : ∀ (L : ArL) (p k : Nat) (q : Nat × Nat), q.1 ≠ p → (q ∈ insR L p k ↔ q ∈ L)
  | [], p, k, q, h => by
    rw [insR, List.mem_singleton]
    constructor
    · intro e; exact absurd (by rw [e]) h
    · intro e; cases e
  | x :: L, p, k, q, h => by
    rw [insR]
    split
    · rw [List.mem_cons]
      constructor
      · rintro (e | e)
        · exact absurd (by rw [e]) h
        · exact e
      · exact Or.inr
    · split
      · rename_i he
        rw [List.mem_cons, List.mem_cons]
        constructor
        · rintro (e | e)
          · exact absurd (by rw [e]) h
          · exact Or.inr e
        · rintro (e | e)
          · exact absurd (by rw [e]; exact he.symm) h
          · exact Or.inr e
      · rw [List.mem_cons, List.mem_cons, insR_oth L p k q h]
theorem insR_own : ∀ (L : ArL) (p k c : Nat), Srt L → ((p, c) ∈ insR L p k ↔ (∃ k0, (p, k0) ∈ L ∧ c = min k k0) ∨ (c = k ∧ ∀ k0, ¬ (p, k0) ∈ L))
  | [], p, k, c, _ => by
    rw [insR, List.mem_singleton]
    constructor
    · intro e; exact Or.inr ⟨(Prod.mk.inj e).2, fun k0 h => by cases h⟩
    · rintro (⟨k0, h, _⟩ | ⟨e, _⟩)
      · cases h
      · rw [e]
  | x :: L, p, k, c, h => by
    have a := List.pairwise_cons.mp h
    rw [insR]
    split
    · rename_i hlt
      have hno : ∀ k0, ¬ (p, k0) ∈ x :: L := by
        intro k0 hk
        rcases List.mem_cons.mp hk with e | e
        · rw [← e] at hlt; exact absurd hlt (Nat.lt_irrefl _)
        · have h1 : x.1 < p := a.1 _ e
          omega
      rw [List.mem_cons]
      constructor
      · rintro (e | e)
        · exact Or.inr ⟨(Prod.mk.inj e).2, hno⟩
        · exact absurd e (hno c)
      · rintro (⟨k0, hk, _⟩ | ⟨e, _⟩)
        · exact absurd hk (hno k0)
        · exact Or.inl (by rw [e])
    · rename_i hge
      split
      · rename_i he
        have hL : ∀ k0, ¬ (p, k0) ∈ L := fun k0 hk => by have h1 : x.1 < p := a.1 _ hk; omega
        rw [List.mem_cons]
        constructor
        · rintro (e | e)
          · exact Or.inl ⟨x.2, List.mem_cons.mpr (Or.inl (by rw [he])), (Prod.mk.inj e).2⟩
          · exact absurd e (hL c)
        · rintro (⟨k0, hk, e⟩ | ⟨_, h0⟩)
          · rcases List.mem_cons.mp hk with e2 | e2
            · exact Or.inl (by rw [e, ← e2])
            · exact absurd e2 (hL k0)
          · exact absurd (List.mem_cons.mpr (Or.inl (by rw [he]))) (h0 x.2)
      · rename_i hne
        rw [List.mem_cons, insR_own L p k c a.2]
        constructor
        · rintro (e | ⟨k0, hk, e⟩ | ⟨e, h0⟩)
          · exact absurd (by rw [← e]) hne
          · exact Or.inl ⟨k0, List.mem_cons_of_mem _ hk, e⟩
          · refine Or.inr ⟨e, ?_⟩
            intro k0 hk
            rcases List.mem_cons.mp hk with e2 | e2
            · exact hne (by rw [← e2])
            · exact h0 k0 e2
        · rintro (⟨k0, hk, e⟩ | ⟨e, h0⟩)
          · rcases List.mem_cons.mp hk with e2 | e2
            · exact absurd (by rw [← e2]) hne
            · exact Or.inr (Or.inl ⟨k0, e2, e⟩)
          · exact Or.inr (Or.inr ⟨e, fun k0 hk => h0 k0 (List.mem_cons_of_mem _ hk)⟩)
theorem insR_len : ∀ (L : ArL) (p k : Nat), L.length ≤ (insR L p k).length ∧ (insR L p k).length ≤ L.length + 1
  | [], p, k => by simp [insR]
  | x :: L, p, k => by
    have := insR_len L p k
    rw [insR]
    split
    · simp only [List.length_cons]; omega
    · split
      · simp only [List.length_cons]; omega
      · simp only [List.length_cons]; omega
theorem Cn.ins {S : Nat → Nat → Prop} {L : ArL} (h : Cn S L) (p0 k0 : Nat) : Cn (fun p k => S p k ∨ (p = p0 ∧ k = k0)) (insR L p0 k0) := by
  refine ⟨insR_srt L p0 k0 h.1, ?_⟩
  intro p k
  by_cases hp : p = p0
  · subst hp
    rw [insR_own L p k0 k h.1]
    constructor
    · rintro (⟨c, hc, e⟩ | ⟨e, h0⟩)
      · have h1 := (h.2 p c).mp hc
        constructor
        · rcases Nat.le_total k0 c with h2 | h2
          · exact Or.inr ⟨rfl, by rw [e, Nat.min_eq_left h2]⟩
          · exact Or.inl (by rw [e, Nat.min_eq_right h2]; exact h1.1)
        · rintro k' (h2 | ⟨_, h2⟩)
          · have := h1.2 k' h2; omega
          · omega
      · have hS : ∀ c, ¬ S p c := by
          intro c hc
          obtain ⟨d, hd, hd2⟩ := pk_least (fun c => S p c) ⟨c, hc⟩
          exact h0 d ((h.2 p d).mpr ⟨hd, fun k' hk' => Nat.le_of_not_lt (fun hl => hd2 k' hl hk')⟩)
        refine ⟨Or.inr ⟨rfl, e⟩, ?_⟩
        rintro k' (h2 | ⟨_, h2⟩)
        · exact absurd h2 (hS k')
        · omega
    · rintro ⟨h1, h2⟩
      by_cases hS : ∃ c, S p c
      · obtain ⟨d, hd, hd2⟩ := pk_least (fun c => S p c) hS
        have hm : (p, d) ∈ L := (h.2 p d).mpr ⟨hd, fun k' hk' => Nat.le_of_not_lt (fun hl => hd2 k' hl hk')⟩
        refine Or.inl ⟨d, hm, ?_⟩
        have h3 := h2 d (Or.inl hd)
        have h4 := h2 k0 (Or.inr ⟨rfl, rfl⟩)
        rcases h1 with h1 | ⟨_, h1⟩
        · have := ((h.2 p d).mp hm).2 k h1
          omega
        · omega
      · refine Or.inr ⟨?_, fun c hc => hS ⟨c, ((h.2 p c).mp hc).1⟩⟩
        rcases h1 with h1 | ⟨_, h1⟩
        · exact absurd ⟨k, h1⟩ hS
        · exact h1
  · rw [insR_oth L p0 k0 (p, k) hp, h.2 p k]
    constructor
    · rintro ⟨h1, h2⟩
      refine ⟨Or.inl h1, ?_⟩
      rintro k' (h3 | ⟨h3, _⟩)
      · exact h2 k' h3
      · exact absurd h3 hp
    · rintro ⟨h1, h2⟩
      rcases h1 with h1 | ⟨h1, _⟩
      · exact ⟨h1, fun k' hk => h2 k' (Or.inl hk)⟩
      · exact absurd h1 hp
theorem Cn.nil : Cn (fun _ _ => False) [] := ⟨List.Pairwise.nil, fun p k => ⟨fun h => (by cases h), fun h => h.1.elim⟩⟩
def insL (D L : ArL) : ArL := D.foldl (fun L q => insR L q.1 q.2) L
theorem Cn.addL : ∀ (D : ArL) {S : Nat → Nat → Prop} {L : ArL}, Cn S L → Cn (fun p k => S p k ∨ (p, k) ∈ D) (insL D L)
  | [], S, L, h => h.congr (fun p k => ⟨Or.inl, fun h => h.elim id (fun h => by cases h)⟩)
  | q :: D, S, L, h => by
    refine (Cn.addL D (h.ins q.1 q.2)).congr ?_
    intro p k
    rw [List.mem_cons]
    constructor
    · rintro ((h | ⟨h1, h2⟩) | h)
      · exact Or.inl h
      · exact Or.inr (Or.inl (by rw [h1, h2]))
      · exact Or.inr (Or.inr h)
    · rintro (h | h | h)
      · exact Or.inl (Or.inl h)
      · exact Or.inl (Or.inr ⟨by rw [← h], by rw [← h]⟩)
      · exact Or.inr h
theorem Cn.ofL (D : ArL) : Cn (fun p k => (p, k) ∈ D) (insL D []) := (Cn.addL D Cn.nil).congr (fun _ _ => ⟨fun h => h.elim False.elim id, Or.inr⟩)
theorem insL_len : ∀ (D L : ArL), L.length ≤ (insL D L).length ∧ (insL D L).length ≤ L.length + D.length
  | [], L => ⟨Nat.le_refl _, Nat.le_refl _⟩
  | q :: D, L => by
    have h1 := insL_len D (insR L q.1 q.2)
    have h2 := insR_len L q.1 q.2
    have e : insL (q :: D) L = insL D (insR L q.1 q.2) := rfl
    rw [e, List.length_cons]
    omega
