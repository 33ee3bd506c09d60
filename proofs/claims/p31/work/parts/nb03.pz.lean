theorem cnt_0 {b : Nat → Bool} : ∀ {n : Nat}, cnt b n = 0 → ∀ s, s < n → b s = false
  | 0, _, s, hs => absurd hs (Nat.not_lt_zero _)
  | n + 1, h, s, hs => by
    rw [cnt] at h
    by_cases e : s = n
    · rw [e]
      cases hb : b n with
      | false => rfl
      | true => rw [hb, if_pos rfl] at h; omega
    · exact cnt_0 (b := b) (n := n) (by omega) s (by omega)
theorem psA_none {sel : Nat × Nat → Bool} {v : Int32} : ∀ (L : ArL), lt32 L → (∀ s, s < 32 → tb v s = false) → psA sel L v = v
  | [], _, _ => rfl
  | q :: L, hl, h => by
    have e : stp sel v q = v := by
      unfold stp
      rw [h _ (hl q (List.mem_cons_self ..)).1, Bool.and_false, if_neg (by simp)]
    show psA sel L (stp sel v q) = v
    rw [e]
    exact psA_none L (fun x hx => hl x (List.mem_cons_of_mem _ hx)) h
theorem itA_all {sel : Nat × Nat → Bool} {L : ArL} {v : Int32} {n : Nat} (hok : DOK n L) (hn : n ≤ 32) (hv : ∀ s, s < 32 → tb v s = true → s < n) : Clo sel L v (itA sel L v 32) := by
  have hl := hok.l32 hn
  rcases Nat.eq_zero_or_pos (cnt (tb v) 32) with h | h
  · have h0 := cnt_0 h
    have e : ∀ k, itA sel L v k = v := by
      intro k
      induction k with
      | zero => rfl
      | succ k ih =>
        show psA sel L (itA sel L v k) = v
        rw [ih]; exact psA_none L hl h0
    exact clo_of hl (by rw [e]; exact psA_none L hl h0)
  · exact clo_of hl (itA_done hok hn hv h hn)
abbrev eps (L : ArL) : Nat → Nat → Prop := sR (selG true) L
def mfi (L : ArL) : Int32 := itA (selG true) L (nI 1) 32
def sx (x : Nat) (v : Int32) (q : Nat × Nat) : Bool := decide (upr q.1 = x) && tb v (fr q.1)
def st1 (L : ArL) (x : Nat) (v : Int32) : Int32 := L.foldl (fun t q => if sx x v q = true then t ||| q_shl (nI 1) (nI (too q.1)) else t) (nI 0)
def mst (L : ArL) (x : Nat) (v : Int32) : Int32 := itA (selG true) L (st1 L x v) 32
theorem st1_take {L : ArL} {x i : Nat} {v : Int32} {q : Nat × Nat} (h : L[i]? = some q) : st1 (L.take (i + 1)) x v = if sx x v q = true then st1 (L.take i) x v ||| q_shl (nI 1) (nI (too q.1)) else st1 (L.take i) x v := by
  unfold st1
  rw [List.take_add_one, h, List.foldl_append]; rfl
theorem st1_spec {x : Nat} {v : Int32} : ∀ (L : ArL) (t : Int32), lt32 L → ∀ s, s < 32 → (tb (L.foldl (fun t q => if sx x v q = true then t ||| q_shl (nI 1) (nI (too q.1)) else t) t) s = true ↔ tb t s = true ∨ ∃ q, q ∈ L ∧ upr q.1 = x ∧ tb v (fr q.1) = true ∧ too q.1 = s)
  | [], t, _, s, _ => ⟨Or.inl, fun h => h.elim id (fun ⟨q, hq, _⟩ => (by cases hq))⟩
  | a :: L, t, hl, s, hs => by
    rw [List.foldl_cons, st1_spec L _ (fun y hy => hl y (List.mem_cons_of_mem _ hy)) s hs]
    have ha := (hl a (List.mem_cons_self ..)).2
    by_cases c : sx x v a = true
    · rw [if_pos c, or_bit ha hs, Bool.or_eq_true, decide_eq_true_eq]
      unfold sx at c
      rw [Bool.and_eq_true, decide_eq_true_eq] at c
      constructor
      · rintro ((h | h) | ⟨q, hq, h⟩)
        · exact Or.inl h
        · exact Or.inr ⟨a, List.mem_cons_self .., c.1, c.2, h.symm⟩
        · exact Or.inr ⟨q, List.mem_cons_of_mem _ hq, h⟩
      · rintro (h | ⟨q, hq, h⟩)
        · exact Or.inl (Or.inl h)
        · rcases List.mem_cons.mp hq with rfl | hq
          · exact Or.inl (Or.inr h.2.2.symm)
          · exact Or.inr ⟨q, hq, h⟩
    · rw [if_neg c]
      constructor
      · rintro (h | ⟨q, hq, h⟩)
        · exact Or.inl h
        · exact Or.inr ⟨q, List.mem_cons_of_mem _ hq, h⟩
      · rintro (h | ⟨q, hq, h⟩)
        · exact Or.inl h
        · rcases List.mem_cons.mp hq with rfl | hq
          · exact absurd (by unfold sx; rw [decide_eq_true h.1, h.2.1]; rfl) c
          · exact Or.inr ⟨q, hq, h⟩
theorem st1_iff {L : ArL} {x s : Nat} {v : Int32} (hl : lt32 L) (hs : s < 32) : tb (st1 L x v) s = true ↔ ∃ q, q ∈ L ∧ upr q.1 = x ∧ tb v (fr q.1) = true ∧ too q.1 = s := by
  unfold st1
  rw [st1_spec L _ hl s hs, tb_0]
  constructor
  · rintro (h | h)
    · cases h
    · exact h
  · exact Or.inr
def StpS (L : ArL) (x : Nat) (v r : Int32) : Prop := ∀ s, s < 32 → (tb r s = true ↔ ∃ q, q ∈ L ∧ upr q.1 = x ∧ tb v (fr q.1) = true ∧ Rc (eps L) (too q.1) s)
theorem tb_uq {v v' : Int32} (h : ∀ s, s < 32 → (tb v s = true ↔ tb v' s = true)) : v = v' := tb_ext (fun s hs => Bool.eq_iff_iff.mpr (h s hs))
theorem StpS.uq {L : ArL} {x : Nat} {v r r' : Int32} (h : StpS L x v r) (h' : StpS L x v r') : r = r' := tb_uq (fun s hs => (h s hs).trans (h' s hs).symm)
theorem mst_spec {L : ArL} {n x : Nat} {v : Int32} (hok : DOK n L) (hn : n ≤ 32) : StpS L x v (mst L x v) := by
  have hl := hok.l32 hn
  intro s hs
  have hc : Clo (selG true) L (st1 L x v) (mst L x v) := itA_all hok hn (fun s hs h => by
    obtain ⟨q, hq, _, _, e⟩ := (st1_iff hl hs).mp h
    rw [← e]; exact (hok q hq).2.2.1)
  rw [hc s hs]
  constructor
  · rintro ⟨a, ha, h, hr⟩
    obtain ⟨q, hq, h1, h2, h3⟩ := (st1_iff hl ha).mp h
    exact ⟨q, hq, h1, h2, by rw [h3]; exact hr⟩
  · rintro ⟨q, hq, h1, h2, hr⟩
    exact ⟨too q.1, (hl q hq).2, (st1_iff hl (hl q hq).2).mpr ⟨q, hq, h1, h2, rfl⟩, hr⟩
theorem mfi_spec {L : ArL} {n : Nat} (hok : DOK n L) (hn : n ≤ 32) (h1 : 1 ≤ n) : ∀ s, s < 32 → (tb (mfi L) s = true ↔ Rc (eps L) 0 s) := by
  intro s hs
  have hc : Clo (selG true) L (nI 1) (mfi L) := itA_all hok hn (one_lt h1)
  rw [hc s hs]
  constructor
  · rintro ⟨a, ha, h, hr⟩
    rw [tb_1 a ha, decide_eq_true_eq] at h
    rw [h] at hr; exact hr
  · intro hr; exact ⟨0, by omega, by decide +kernel, hr⟩
