def HI (m0 : Mem) (V0 : Nat → Nat) (R : Nat → Nat → Prop) (m : Mem) (V : Nat → Nat) (fl : Bool) : Prop := Fx 100 101 [] m0 m ∧ HV m 100 V R ∧ (∀ y, V y ≤ V0 y) ∧ (fl = false → V = V0) ∧ (fl = true → ∃ a, a < 288 ∧ V a < V0 a)
theorem HI.up {m0 m : Mem} {V0 V : Nat → Nat} {R : Nat → Nat → Prop} {fl : Bool} {b v : Nat} (h : HI m0 V0 R m V fl) (hb : b < 288) (hv : v < V b → R b v) : HI m0 V0 R (mup m 100 b (nI (if v < V b then v else V b))) (lwV V b v) (fl || decide (v < V b)) := by
  obtain ⟨j1, j2, j3, j5, j6⟩ := h
  refine ⟨j1.up (by omega) (by omega) (by omega), j2.up hb hv, fun y => Nat.le_trans (lwV_le y) (j3 y), fun hfl => ?_, fun hfl => ?_⟩
  · rw [Bool.or_eq_false_iff] at hfl
    rw [lwV_id (of_decide_eq_false hfl.2)]
    exact j5 hfl.1
  · rw [Bool.or_eq_true] at hfl
    rcases hfl with hfl | hfl
    · obtain ⟨a, ha, hlt⟩ := j6 hfl
      exact ⟨a, ha, Nat.lt_of_le_of_lt (lwV_le a) hlt⟩
    · have hlt := of_decide_eq_true hfl
      have h3 := j3 b
      have h4 : lwV V b v b ≤ v := lwV_at
      exact ⟨b, hb, by omega⟩
