/-! one pass over the changes -/
def PV (Eg : Nat → Nat → Nat → Prop) (En : Nat → Prop) (m0 : Mem) (V0 : Nat → Nat) (m : Mem) (V : Nat → Nat) (fl : Bool) : Prop := Fx 99 100 [] m0 m ∧ TM Eg En m V ∧ (∀ y, V y ≤ V0 y) ∧ (fl = false → V = V0) ∧ (fl = true → ∃ a, a < 288 ∧ V a < V0 a)
theorem PV.up {Eg : Nat → Nat → Nat → Prop} {En : Nat → Prop} {m0 m : Mem} {V0 V : Nat → Nat} {fl : Bool} {a v : Nat} (h : PV Eg En m0 V0 m V fl) (ha : a < 288) (hv : v < V a → Wy Eg En a v ∧ v < 2000000000) : PV Eg En m0 V0 (mup m 99 a (nI (if v < V a then v else V a))) (lwV V a v) (fl || decide (v < V a)) := by
  obtain ⟨j1, j2, j3, j5, j6⟩ := h
  refine ⟨j1.up (by omega) (by omega) (by omega), tm_up j2 ha hv, fun y => Nat.le_trans (lwV_le y) (j3 y), fun hfl => ?_, fun hfl => ?_⟩
  · rw [Bool.or_eq_false_iff] at hfl
    have hnl := of_decide_eq_false hfl.2
    rw [← j5 hfl.1]
    funext y
    unfold lwV
    by_cases e : y = a
    · rw [if_pos e, if_neg hnl, e]
    · rw [if_neg e]
  · rw [Bool.or_eq_true] at hfl
    rcases hfl with hfl | hfl
    · obtain ⟨b, hb, hlt⟩ := j6 hfl
      exact ⟨b, hb, Nat.lt_of_le_of_lt (lwV_le b) hlt⟩
    · have hlt := of_decide_eq_true hfl
      have h3 := j3 a
      have h4 : lwV V a v a ≤ v := lwV_at
      exact ⟨a, ha, by omega⟩
theorem PV.top {Eg : Nat → Nat → Nat → Prop} {En : Nat → Prop} {m0 m : Mem} {V0 V : Nat → Nat} {fl : Bool} (h : PV Eg En m0 V0 m V fl) {a : Nat} (ha : a < 288) : V a ≤ 2000000000 := by
  rcases (h.2.1 a ha).2.1 with ⟨x, _⟩ | ⟨x, _⟩ <;> omega
theorem PV.wy {Eg : Nat → Nat → Nat → Prop} {En : Nat → Prop} {m0 m : Mem} {V0 V : Nat → Nat} {fl : Bool} (h : PV Eg En m0 V0 m V fl) {a : Nat} (ha : a < 288) (hlt : V a < 2000000000) : Wy Eg En a (V a) := by
  rcases (h.2.1 a ha).2.1 with ⟨x, _⟩ | ⟨_, y⟩
  · omega
  · exact y
def plN (v k : Nat) : Nat := if v = 2000000000 then 2000000000 else v + k
theorem mo_plus {N v k : Nat} {m : Mem} (hv : v ≤ 2000000000) (hk : k < 1000) : F_X8_plus N m (nI v) (nI k) = some (nI (plN v k), m) := by
  unfold F_X8_plus B_X8_plus_16 plN
  by_cases c : v = 2000000000
  · subst c
    rw [if_pos (show (nI 2000000000 = 2000000000) from rfl), if_pos rfl]
    rfl
  · have c' : ¬ nI v = (2000000000 : Int32) := fun h => c ((nI_eq (a := v) (b := 2000000000) (by omega) (by omega)).mp h)
    rw [if_neg c', if_neg c]
    simp (disch := omega) only [zi_t, zi_f, bnd_t, zg_in, zx, nI_ltI, nI_leI, nI_eq, nI_add, pk_mul, pk_sub, mup_s, mup_c, mup_j, mrw_c, if_pos, if_neg, zm_1, zm_2, zm_3, zm_4, zm_5, zm_6, zm_7, zm_8, zm_9, zf_0, zf_1, zf_2, zf_3, zf_4, zf_5, zf_6, zf_7, zf_8, zf_9, zf_10, zf_14, zf_15, zf_16, zf_18, zf_19, zf_20, zf_24, zf_30, zf_31, zf_32, zf_33, zf_99, zf_100, zf_160, zf_200, zf_287, zf_288, zf_300, zf_1000, zf_1023, zf_1024, zf_1600, zf_3840, zf_25600, zf_36000, zf_1000000, zf_1000000000, zf_2000000000, zf_11560, za_1, za_2, za_4, za_5, za_6, za_7, za_8, za_9, za_10, za_11, za_12, za_14, za_15, za_22, za_23, za_25, za_26, za_27, za_28, za_29, za_30, za_31, za_32, za_33, za_34, za_35, za_41, za_42, za_43, za_44, za_45, za_46, za_47, za_48, za_49, za_61, za_62, za_63, za_64, za_65, za_71, za_72, za_73, za_74, za_75, za_76, za_77, za_78, za_79, za_80, za_81, za_82, za_83, za_84, za_85, za_86, za_87, za_88, za_89, za_90, za_91, za_92, za_93, za_94, za_95, za_96, za_97, za_98, za_99, za_100, za_101, za_102, za_103, za_104, za_105, za_106, za_107, za_108]
theorem mo_lesser {a b : Nat} (ha : a < 2 ^ 31) (hb : b < 2 ^ 31) : P_X8_lesser (nI a) (nI b) = nI (if b ≤ a then b else a) := by
  unfold P_X8_lesser
  by_cases c : b ≤ a
  · rw [if_pos ((nI_leI (by omega) (by omega)).mpr c), if_pos c]
  · rw [if_neg (fun h => c ((nI_leI (by omega) (by omega)).mp h)), if_neg c]
theorem les_eq {v x : Nat} : (if x ≤ v then x else v) = (if v < x then v else x) := by
  split <;> split <;> omega
def v1C (V : Nat → Nat) (q : Nat × Nat) (p : Nat) : Nat := if upr q.1 = 8 then V (32 * p + too q.1) else plN (V (32 * p + too q.1)) 1
def v2C (V : Nat → Nat) (w : List Nat) (q : Nat × Nat) (p : Nat) : Option Nat := match w[p]? with
  | none => none
  | some x => if upr q.1 = 8 then none else some (plN (V (32 * (p + 1) + too q.1)) (if x = upr q.1 then 0 else 1))
def vC (V : Nat → Nat) (w : List Nat) (q : Nat × Nat) (p : Nat) : Nat := match v2C V w q p with
  | none => v1C V q p
  | some r => if r ≤ v1C V q p then r else v1C V q p
theorem plN_le {v k : Nat} (hv : v < 2000000000) : plN v k ≤ v + k := by unfold plN; split <;> omega
theorem plN_lt {v k : Nat} (h : plN v k < 2000000000) : v ≠ 2000000000 ∧ plN v k = v + k := by
  unfold plN at h ⊢
  split at h
  · omega
  · rename_i c; rw [if_neg c]; exact ⟨c, rfl⟩
theorem vC_le1 {V : Nat → Nat} {w : List Nat} {q : Nat × Nat} {p : Nat} : vC V w q p ≤ v1C V q p := by
  unfold vC
  cases v2C V w q p with
  | none => exact Nat.le_refl _
  | some r =>
    show (if r ≤ v1C V q p then r else v1C V q p) ≤ _
    split <;> omega
theorem vC_st {V : Nat → Nat} {w : List Nat} {q : Nat × Nat} {p c : Nat} (h : cSt 2 q = some c) (hlt : V (32 * p + too q.1) < 2000000000) : vC V w q p ≤ V (32 * p + too q.1) + c := by
  refine Nat.le_trans vC_le1 ?_
  have h : some (if upr q.1 = 8 then 0 else 1) = some c := h
  have e := Option.some.inj h
  unfold v1C
  by_cases c8 : upr q.1 = 8
  · rw [if_pos c8] at e ⊢; omega
  · rw [if_neg c8] at e ⊢
    rw [← e]; exact plN_le hlt
theorem vC_rd {V : Nat → Nat} {w : List Nat} {q : Nat × Nat} {p c : Nat} (h : cRd 2 w p q = some c) (hlt : V (32 * (p + 1) + too q.1) < 2000000000) : vC V w q p ≤ V (32 * (p + 1) + too q.1) + c := by
  unfold cRd at h
  cases hwp : w[p]? with
  | none => rw [hwp] at h; cases h
  | some x =>
    rw [hwp] at h
    have h : (if upr q.1 = 8 then none else some (if upr q.1 = x then 0 else 1)) = some c := h
    split at h
    · cases h
    · rename_i c8
      have e := Option.some.inj h
      have ex : (if x = upr q.1 then 0 else 1) = c := by
        rw [← e]
        by_cases cx : x = upr q.1
        · rw [if_pos cx, if_pos cx.symm]
        · rw [if_neg cx, if_neg (fun h => cx h.symm)]
      have e2 : v2C V w q p = some (plN (V (32 * (p + 1) + too q.1)) c) := by
        unfold v2C
        rw [hwp]
        show (if upr q.1 = 8 then none else some (plN (V (32 * (p + 1) + too q.1)) (if x = upr q.1 then 0 else 1))) = _
        rw [if_neg c8, ex]
      unfold vC
      rw [e2]
      show (if plN (V (32 * (p + 1) + too q.1)) c ≤ v1C V q p then plN (V (32 * (p + 1) + too q.1)) c else v1C V q p) ≤ _
      have := plN_le (k := c) hlt
      split <;> omega
theorem vC_bd {V : Nat → Nat} {w : List Nat} {q : Nat × Nat} {p : Nat} (hV : V (32 * p + too q.1) ≤ 2000000000) : vC V w q p ≤ 2000000001 := by
  refine Nat.le_trans vC_le1 ?_
  unfold v1C plN
  split
  · omega
  · split <;> omega
theorem vC_wy {n p : Nat} {f : Nat → Bool} {L : ArL} {w : List Nat} {q : Nat × Nat} {m0 m : Mem} {V0 V : Nat → Nat} {fl : Bool} (h : PV (eG 2 L w) (En n f w) m0 V0 m V fl) (hq : q ∈ L) (ht : too q.1 < 32) (hf : fr q.1 < 32) (hp : p ≤ w.length) (hw : w.length ≤ 8) (hlt : vC V w q p < V (32 * p + fr q.1)) : Wy (eG 2 L w) (En n f w) (32 * p + fr q.1) (vC V w q p) ∧ vC V w q p < 2000000000 := by
  have htop := h.top (a := 32 * p + fr q.1) (by omega)
  have hl2 : vC V w q p < 2000000000 := by omega
  refine ⟨?_, hl2⟩
  have hst : cSt 2 q = some (if upr q.1 = 8 then 0 else 1) := rfl
  have k1 : vC V w q p = v1C V q p → Wy (eG 2 L w) (En n f w) (32 * p + fr q.1) (vC V w q p) := by
    intro e
    rw [e] at hl2 ⊢
    have hE : eG 2 L w (32 * p + fr q.1) (if upr q.1 = 8 then 0 else 1) (32 * p + too q.1) := ⟨_, p, hp, Or.inl ⟨q, hq, hst, rfl, rfl, rfl⟩⟩
    unfold v1C at hl2 ⊢
    by_cases c8 : upr q.1 = 8
    · rw [if_pos c8] at hl2 hE ⊢
      have := wy_st hE (h.wy (by omega) hl2)
      rw [Nat.zero_add] at this
      exact this
    · rw [if_neg c8] at hl2 hE ⊢
      obtain ⟨x1, x2⟩ := plN_lt hl2
      have := wy_st hE (h.wy (by omega) (by omega))
      have e5 : plN (V (32 * p + too q.1)) 1 = 1 + V (32 * p + too q.1) := by rw [x2]; exact Nat.add_comm _ _
      rw [e5]
      exact this
  cases e2 : v2C V w q p with
  | none =>
    refine k1 ?_
    unfold vC
    rw [e2]
  | some r =>
    by_cases cr : r ≤ v1C V q p
    · have ev : vC V w q p = r := by
        unfold vC
        rw [e2]
        show (if r ≤ v1C V q p then r else v1C V q p) = r
        rw [if_pos cr]
      rw [ev] at hl2 ⊢
      unfold v2C at e2
      cases hwp : w[p]? with
      | none => rw [hwp] at e2; cases e2
      | some x =>
        rw [hwp] at e2
        have e2 : (if upr q.1 = 8 then none else some (plN (V (32 * (p + 1) + too q.1)) (if x = upr q.1 then 0 else 1))) = some r := e2
        have hp2 := (List.getElem?_eq_some_iff.mp hwp).1
        split at e2
        · cases e2
        · rename_i c8
          have e3 := Option.some.inj e2
          have hE : eG 2 L w (32 * p + fr q.1) (if x = upr q.1 then 0 else 1) (32 * (p + 1) + too q.1) := by
            refine ⟨_, p, hp, Or.inr (Or.inl ⟨q, hq, ?_, rfl, rfl, rfl⟩)⟩
            unfold cRd
            rw [hwp]
            show (if upr q.1 = 8 then none else some (if upr q.1 = x then 0 else 1)) = _
            rw [if_neg c8]
            by_cases cx : x = upr q.1
            · rw [if_pos cx, if_pos cx.symm]
            · rw [if_neg cx, if_neg (fun h => cx h.symm)]
          rw [← e3] at hl2 ⊢
          obtain ⟨x1, x2⟩ := plN_lt hl2
          have := wy_st hE (h.wy (a := 32 * (p + 1) + too q.1) (by omega) (by omega))
          have e5 : plN (V (32 * (p + 1) + too q.1)) (if x = upr q.1 then 0 else 1) = (if x = upr q.1 then 0 else 1) + V (32 * (p + 1) + too q.1) := by rw [x2]; exact Nat.add_comm _ _
          rw [e5]
          exact this
    · refine k1 ?_
      unfold vC
      rw [e2]
      show (if r ≤ v1C V q p then r else v1C V q p) = _
      rw [if_neg cr]
