def PV (Eg : Nat → Nat → Nat → Prop) (En : Nat → Prop) (m0 : Mem) (V0 : Nat → Nat) (m : Mem) (V : Nat → Nat) (fl : Bool) : Prop := Fx 99 100 [] m0 m ∧ TM Eg En m V ∧ (∀ y, V y ≤ V0 y) ∧ (fl = false → V = V0) ∧ (fl = true → ∃ a, a < 288 ∧ V a < V0 a)
theorem PV.up {Eg : Nat → Nat → Nat → Prop} {En : Nat → Prop} {m0 m : Mem} {V0 V : Nat → Nat} {fl : Bool} {a v : Nat} (h : PV Eg En m0 V0 m V fl) (ha : a < 288) (hv : v < V a → Wy Eg En a v ∧ v < 2000000000) : PV Eg En m0 V0 (mup m 99 a (nI (if v < V a then v else V a))) (lwV V a v) (fl || decide (v < V a)) := by
  obtain ⟨j1, j2, j3, j5, j6⟩ := h
  refine ⟨j1.up (by omega) (by omega) (by omega), tm_up j2 ha hv, fun y => Nat.le_trans (lwV_le y) (j3 y), fun hfl => ?_, fun hfl => ?_⟩
  · rw [Bool.or_eq_false_iff] at hfl
    have hnl := of_decide_eq_false hfl.2
    rw [← j5 hfl.1]
    funext y
    unfold lwV
    by_cases e : y = a
    · rw [if_pos e, if_neg hnl, e]
    · rw [if_neg e]
  · rw [Bool.or_eq_true] at hfl
    rcases hfl with hfl | hfl
    · obtain ⟨b, hb, hlt⟩ := j6 hfl
      exact ⟨b, hb, Nat.lt_of_le_of_lt (lwV_le b) hlt⟩
    · have hlt := of_decide_eq_true hfl
      have h3 := j3 a
      have h4 : lwV V a v a ≤ v := lwV_at
      exact ⟨a, ha, by omega⟩
theorem PV.top {Eg : Nat → Nat → Nat → Prop} {En : Nat → Prop} {m0 m : Mem} {V0 V : Nat → Nat} {fl : Bool} (h : PV Eg En m0 V0 m V fl) {a : Nat} (ha : a < 288) : V a ≤ 2000000000 := by
  rcases (h.2.1 a ha).2.1 with ⟨x, _⟩ | ⟨x, _⟩ <;> omega
