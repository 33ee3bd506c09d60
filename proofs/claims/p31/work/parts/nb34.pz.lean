def MSt (m : Mem) (i n : Nat) (f : Nat → Bool) (L : ArL) (w : List Nat) : Prop := MM m i n (eB f n) L ∧ m 70 2 = nI w.length ∧ ∀ j x, w[j]? = some x → m 71 j = nI x
theorem MSt.cg {m m' : Mem} {i n : Nat} {f : Nat → Bool} {L : ArL} {w : List Nat} (h : MSt m i n f L w) (hf : ∀ k, 71 ≤ k → k < 80 → m' k = m k) (h2 : m' 70 2 = m 70 2) : MSt m' i n f L w :=
  ⟨h.1.cg (fun k a b => by rw [hf k (by omega) (by omega)]) (fun k j a b _ => by rw [hf k (by omega) (by omega)]), by rw [h2]; exact h.2.1, fun j x hx => by rw [hf 71 (by omega) (by omega)]; exact h.2.2 j x hx⟩
def wU (u : Bool) : Nat := if u = true then 1 else 0
theorem wU_lt (u : Bool) : wU u ≠ 2 ∧ wU u < 3 := by
  cases u
  · exact ⟨by decide, by decide⟩
  · exact ⟨by decide, by decide⟩
def bhd (u : Bool) (w : List Nat) (q : Nat × Nat) (p : Nat) : Option Nat := if rdW (wU u) q = 8 then some p else match w[p]? with
  | none => none
  | some x => if x = rdW (wU u) q then some (p + 1) else none
theorem bhd_eg {u : Bool} {w : List Nat} {q : Nat × Nat} {p p' : Nat} {L : ArL} (hq : q ∈ L) (hp : p ≤ w.length) (h : bhd u w q p = some p') : p' ≤ w.length ∧ Eg (wU u) L w (32 * p + fr q.1) q.2 (32 * p' + too q.1) (syW (wU u) q) ∧ (p' = p ∨ p' = p + 1) := by
  obtain ⟨u2, _⟩ := wU_lt u
  unfold bhd at h
  by_cases c8 : rdW (wU u) q = 8
  · rw [if_pos c8] at h
    have e := Option.some.inj h
    subst e
    refine ⟨hp, ⟨p, hp, Or.inl ⟨q, hq, ?_, rfl, rfl, rfl⟩⟩, Or.inl rfl⟩
    unfold cSt
    rw [if_neg u2, if_pos c8]
  · rw [if_neg c8] at h
    cases hwp : w[p]? with
    | none => rw [hwp] at h; cases h
    | some x =>
      rw [hwp] at h
      have h : (if x = rdW (wU u) q then some (p + 1) else none) = some p' := h
      have hp2 := (List.getElem?_eq_some_iff.mp hwp).1
      by_cases cx : x = rdW (wU u) q
      · rw [if_pos cx] at h
        have e := Option.some.inj h
        subst e
        refine ⟨by omega, ⟨p, hp, Or.inr (Or.inl ⟨q, hq, ?_, rfl, rfl, rfl⟩)⟩, Or.inr rfl⟩
        unfold cRd
        rw [hwp]
        show (if rdW (wU u) q = 8 then none else if wU u = 2 then some (if rdW (wU u) q = x then 0 else 1) else if rdW (wU u) q = x then some q.2 else none) = some q.2
        rw [if_neg c8, if_neg u2, if_pos cx.symm]
      · rw [if_neg cx] at h; cases h
def TM (Eg : Nat → Nat → Nat → Prop) (En : Nat → Prop) (m : Mem) (V : Nat → Nat) : Prop := ∀ a, a < 288 → m 99 a = nI (V a) ∧ ((V a = 2000000000 ∧ ¬ En a) ∨ (V a < 2000000000 ∧ Wy Eg En a (V a))) ∧ (En a → V a = 0)
def lwV (V : Nat → Nat) (a v : Nat) (x : Nat) : Nat := if x = a then (if v < V a then v else V a) else V x
theorem lwV_le {V : Nat → Nat} {a v : Nat} (x : Nat) : lwV V a v x ≤ V x := by
  unfold lwV
  split
  · rename_i e
    rw [e]
    split <;> omega
  · exact Nat.le_refl _
theorem lwV_at {V : Nat → Nat} {a v : Nat} : lwV V a v a ≤ v := by
  unfold lwV
  rw [if_pos rfl]
  split <;> omega
theorem tm_up {Eg : Nat → Nat → Nat → Prop} {En : Nat → Prop} {m : Mem} {V : Nat → Nat} {a v : Nat} (h : TM Eg En m V) (ha : a < 288) (hv : v < V a → Wy Eg En a v ∧ v < 2000000000) : TM Eg En (mup m 99 a (nI (if v < V a then v else V a))) (lwV V a v) := by
  intro b hb
  obtain ⟨e1, e2, e3⟩ := h b hb
  unfold lwV
  by_cases e : b = a
  · subst e
    rw [if_pos rfl, mup_s]
    refine ⟨rfl, ?_, fun he => ?_⟩
    · by_cases c : v < V b
      · rw [if_pos c]
        exact Or.inr ⟨(hv c).2, (hv c).1⟩
      · rw [if_neg c]; exact e2
    · have := e3 he
      rw [if_neg (by omega)]; exact this
  · rw [if_neg e, mup_j (by omega)]
    exact ⟨e1, e2, e3⟩
