def Wa (δ : Nat → Nat) (ch : Bool) (a c b : Nat) : Prop := δ b < 1000000000 ∧ (ch = true → δ a = δ b + c)
def wyB (δ : Nat → Nat) (ch : Bool) (a : Nat) (o : Option Nat) (b : Nat) : Bool := match o with
  | none => false
  | some c => decide (δ b < 1000000000) && (!ch || decide (δ a = δ b + c))
theorem wyB_iff {δ : Nat → Nat} {ch : Bool} {a b : Nat} {o : Option Nat} : wyB δ ch a o b = true ↔ ∃ c, o = some c ∧ Wa δ ch a c b := by
  cases o with
  | none => exact ⟨fun h => (by cases h), fun ⟨c, h, _⟩ => (by cases h)⟩
  | some c =>
    show (decide (δ b < 1000000000) && (!ch || decide (δ a = δ b + c))) = true ↔ _
    rw [Bool.and_eq_true, decide_eq_true_eq]
    constructor
    · rintro ⟨h1, h2⟩
      refine ⟨c, rfl, h1, fun h => ?_⟩
      rw [h] at h2
      exact of_decide_eq_true h2
    · rintro ⟨c', h0, h1, h2⟩
      have e := Option.some.inj h0
      subst e
      refine ⟨h1, ?_⟩
      cases ch with
      | false => rfl
      | true => exact decide_eq_true (h2 rfl)
def SF (m : Mem) (a way n : Nat) (f : Nat → Bool) (L : ArL) (w : List Nat) (δ : Nat → Nat) (ch : Bool) : Prop := SL m a way n f L w δ ∧ m 40 4 = bI ch
theorem SF.cg {m m' : Mem} {a way n : Nat} {f : Nat → Bool} {L : ArL} {w : List Nat} {δ : Nat → Nat} {ch : Bool} (h : SF m a way n f L w δ ch) (ha : 200 ≤ a) (hf : ∀ k, (41 ≤ k ∧ k < 47) ∨ 200 ≤ k → m' k = m k) (h0 : ∀ j, j < 5 → m' 40 j = m 40 j) : SF m' a way n f L w δ ch :=
  ⟨⟨h.1.1.cg ha (fun k hk => hf k (by omega)) (h0 1 (by omega)) (h0 2 (by omega)) (h0 3 (by omega)), fun p s h1 h2 h3 => by rw [hf 46 (by omega)]; exact h.1.2 p s h1 h2 h3⟩, by rw [h0 4 (by omega)]; exact h.2⟩
theorem SF.off {m m' : Mem} {a way n : Nat} {f : Nat → Bool} {L : ArL} {w : List Nat} {δ : Nat → Nat} {ch : Bool} (h : SF m a way n f L w δ ch) (ha : 200 ≤ a) (hf : Off 47 50 m m') : SF m' a way n f L w δ ch := h.cg ha (fun k hk => hf k (by omega)) (fun j hj => by rw [hf 40 (by omega)])
theorem cl_isWay {N a b va vb : Nat} {ch : Bool} {o : Option Nat} {δ : Nat → Nat} {m : Mem} {x : Int32} (hch : m 40 4 = bI ch) (ha : a < 288) (ea : m 46 a = nI (δ a)) (la : δ a ≤ 1000000000) (hb : ∀ c, o = some c → x = nI b ∧ b < 288 ∧ m 46 b = nI (δ b) ∧ δ b ≤ 1000000000 ∧ c ≤ 1000000) : F_X4_isWay N m (nI a) (cI o) x = some (bI (wyB δ ch a o b), m) := by
  cases o with
  | none =>
    unfold F_X4_isWay B_X4_isWay_16
    show (if nM = nM then _ else _) = _
    rw [if_pos rfl]
    rfl
  | some c =>
    obtain ⟨rfl, h1, h2, h3, h4⟩ := hb c rfl
    rw [show cI (some c) = nI c from rfl]
    have ew : wyB δ ch a (some c) b = (decide (δ b < 1000000000) && (!ch || decide (δ a = δ b + c))) := rfl
    rw [ew]
    unfold F_X4_isWay B_X4_isWay_16 B_X4_isWay_42 B_X4_isWay_47
    by_cases c1 : δ b < 1000000000
    · rw [decide_eq_true c1, Bool.true_and]
      cases ch with
      | false =>
        simp (disch := omega) only [zi_t, zi_f, bnd_t, zg_in, zx, nI_ltI, nI_leI, nI_eq, nI_add, pk_mul, pk_sub, mup_s, mup_c, mup_j, mrw_c, if_pos, if_neg, zm_1, zm_2, zm_3, zm_4, zm_5, zm_6, zm_7, zm_8, zm_9, zf_0, zf_1, zf_2, zf_3, zf_4, zf_5, zf_6, zf_7, zf_8, zf_9, zf_10, zf_14, zf_15, zf_16, zf_18, zf_19, zf_20, zf_24, zf_30, zf_31, zf_32, zf_33, zf_99, zf_100, zf_160, zf_200, zf_287, zf_288, zf_300, zf_1000, zf_1023, zf_1024, zf_1600, zf_3840, zf_25600, zf_36000, zf_1000000, zf_1000000000, zf_2000000000, zf_11560, za_1, za_2, za_4, za_5, za_6, za_7, za_8, za_9, za_10, za_11, za_12, za_14, za_15, za_22, za_23, za_25, za_26, za_27, za_28, za_29, za_30, za_31, za_32, za_33, za_34, za_35, za_41, za_42, za_43, za_44, za_45, za_46, za_47, za_48, za_49, za_61, za_62, za_63, za_64, za_65, za_70, h2, hch, bI_f, gd_t (show isb (nI 1) = true from rfl)]
        rfl
      | true =>
        by_cases c2 : δ a = δ b + c
        · rw [decide_eq_true c2]
          rw [c2] at ea
          simp (disch := omega) only [zi_t, zi_f, bnd_t, zg_in, zx, nI_ltI, nI_leI, nI_eq, nI_add, pk_mul, pk_sub, mup_s, mup_c, mup_j, mrw_c, if_pos, if_neg, zm_1, zm_2, zm_3, zm_4, zm_5, zm_6, zm_7, zm_8, zm_9, zf_0, zf_1, zf_2, zf_3, zf_4, zf_5, zf_6, zf_7, zf_8, zf_9, zf_10, zf_14, zf_15, zf_16, zf_18, zf_19, zf_20, zf_24, zf_30, zf_31, zf_32, zf_33, zf_99, zf_100, zf_160, zf_200, zf_287, zf_288, zf_300, zf_1000, zf_1023, zf_1024, zf_1600, zf_3840, zf_25600, zf_36000, zf_1000000, zf_1000000000, zf_2000000000, zf_11560, za_1, za_2, za_4, za_5, za_6, za_7, za_8, za_9, za_10, za_11, za_12, za_14, za_15, za_22, za_23, za_25, za_26, za_27, za_28, za_29, za_30, za_31, za_32, za_33, za_34, za_35, za_41, za_42, za_43, za_44, za_45, za_46, za_47, za_48, za_49, za_61, za_62, za_63, za_64, za_65, za_70, h2, ea, hch, bI_t, gd_t (show isb (nI 1) = true from rfl)]
          rfl
        · rw [decide_eq_false c2]
          simp (disch := omega) only [zi_t, zi_f, bnd_t, zg_in, zx, nI_ltI, nI_leI, nI_eq, nI_add, pk_mul, pk_sub, mup_s, mup_c, mup_j, mrw_c, if_pos, if_neg, zm_1, zm_2, zm_3, zm_4, zm_5, zm_6, zm_7, zm_8, zm_9, zf_0, zf_1, zf_2, zf_3, zf_4, zf_5, zf_6, zf_7, zf_8, zf_9, zf_10, zf_14, zf_15, zf_16, zf_18, zf_19, zf_20, zf_24, zf_30, zf_31, zf_32, zf_33, zf_99, zf_100, zf_160, zf_200, zf_287, zf_288, zf_300, zf_1000, zf_1023, zf_1024, zf_1600, zf_3840, zf_25600, zf_36000, zf_1000000, zf_1000000000, zf_2000000000, zf_11560, za_1, za_2, za_4, za_5, za_6, za_7, za_8, za_9, za_10, za_11, za_12, za_14, za_15, za_22, za_23, za_25, za_26, za_27, za_28, za_29, za_30, za_31, za_32, za_33, za_34, za_35, za_41, za_42, za_43, za_44, za_45, za_46, za_47, za_48, za_49, za_61, za_62, za_63, za_64, za_65, za_70, h2, ea, hch, bI_t, gd_t (show isb (nI 0) = true from rfl)]
          rfl
    · rw [decide_eq_false c1, Bool.false_and]
      simp (disch := omega) only [zi_t, zi_f, bnd_t, zg_in, zx, nI_ltI, nI_leI, nI_eq, nI_add, pk_mul, pk_sub, mup_s, mup_c, mup_j, mrw_c, if_pos, if_neg, zm_1, zm_2, zm_3, zm_4, zm_5, zm_6, zm_7, zm_8, zm_9, zf_0, zf_1, zf_2, zf_3, zf_4, zf_5, zf_6, zf_7, zf_8, zf_9, zf_10, zf_14, zf_15, zf_16, zf_18, zf_19, zf_20, zf_24, zf_30, zf_31, zf_32, zf_33, zf_99, zf_100, zf_160, zf_200, zf_287, zf_288, zf_300, zf_1000, zf_1023, zf_1024, zf_1600, zf_3840, zf_25600, zf_36000, zf_1000000, zf_1000000000, zf_2000000000, zf_11560, za_1, za_2, za_4, za_5, za_6, za_7, za_8, za_9, za_10, za_11, za_12, za_14, za_15, za_22, za_23, za_25, za_26, za_27, za_28, za_29, za_30, za_31, za_32, za_33, za_34, za_35, za_41, za_42, za_43, za_44, za_45, za_46, za_47, za_48, za_49, za_61, za_62, za_63, za_64, za_65, za_70, h2]
      rfl
theorem wstay {N a way n lv p j : Nat} {f : Nat → Bool} {L : ArL} {w : List Nat} {δ : Nat → Nat} {ch : Bool} {m : Mem} {q : Nat × Nat} (ha : 200 ≤ a) (ha2 : a < 300) (hk : (knd a == 3) = true) (h : SF m a way n f L w δ ch) (hok : DOK n L) (hl : L.length ≤ 160) (hn : n ≤ 32) (hway : way < 3) (hwl : w.length ≤ 8) (hp : p ≤ w.length) (hlv : lv < 288) (hq : L[j]? = some q) : F_X4_isWayStaying N m (nI j) (nI (9 * lv + p)) (nI p) = some (bI (tb (m 47 (9 * lv + p)) (fr q.1) && wyB δ ch (32 * p + fr q.1) (cSt way q) (32 * p + too q.1)), m) := by
  have hj := (List.getElem?_eq_some_iff.mp hq).1
  have hqm := hok q (List.mem_of_getElem? hq)
  have hf1 := hqm.2.1
  have ht1 := hqm.2.2.1
  obtain ⟨⟨hS, hT⟩, hch⟩ := h
  obtain ⟨e42, e43, e44, e45⟩ := hS.2.2.2.2.2 j q hq
  have hh := holds_t (x := m 47 (9 * lv + p)) (s := fr q.1) (by omega)
  have hst := cl_stay (N := N) ha ha2 hk hS hok hl hway hq
  obtain ⟨ea, la⟩ := hT p (fr q.1) (Nat.zero_le _) hp hf1
  obtain ⟨eb, lb⟩ := hT p (too q.1) (Nat.zero_le _) hp ht1
  have hw := cl_isWay (N := N) (va := 0) (vb := 0) (a := 32 * p + fr q.1) (b := 32 * p + too q.1) (o := cSt way q) (x := nI (32 * p + too q.1)) hch (by omega) ea la (fun c hc => ⟨rfl, by omega, eb, lb, cSt_le hqm hc⟩)
  unfold F_X4_isWayStaying B_X4_isWayStaying_54 B_X4_isWayStaying_55
  cases ht : tb (m 47 (9 * lv + p)) (fr q.1) with
  | false =>
    rw [ht] at hh
    simp (disch := omega) only [zi_t, zi_f, bnd_t, zg_in, zx, nI_ltI, nI_leI, nI_eq, nI_add, pk_mul, pk_sub, mup_s, mup_c, mup_j, mrw_c, if_pos, if_neg, zm_1, zm_2, zm_3, zm_4, zm_5, zm_6, zm_7, zm_8, zm_9, zf_0, zf_1, zf_2, zf_3, zf_4, zf_5, zf_6, zf_7, zf_8, zf_9, zf_10, zf_14, zf_15, zf_16, zf_18, zf_19, zf_20, zf_24, zf_30, zf_31, zf_32, zf_33, zf_99, zf_100, zf_160, zf_200, zf_287, zf_288, zf_300, zf_1000, zf_1023, zf_1024, zf_1600, zf_3840, zf_25600, zf_36000, zf_1000000, zf_1000000000, zf_2000000000, zf_11560, za_1, za_2, za_4, za_5, za_6, za_7, za_8, za_9, za_10, za_11, za_12, za_14, za_15, za_22, za_23, za_25, za_26, za_27, za_28, za_29, za_30, za_31, za_32, za_33, za_34, za_35, za_41, za_42, za_43, za_44, za_45, za_46, za_47, za_48, za_49, za_61, za_62, za_63, za_64, za_65, za_70, e42, hh, bI_f, gd_t (show isb (nI 0) = true from rfl), Bool.false_and]
  | true =>
    rw [ht] at hh
    rw [Bool.true_and]
    simp (disch := omega) only [zi_t, zi_f, bnd_t, zg_in, zx, nI_ltI, nI_leI, nI_eq, nI_add, pk_mul, pk_sub, mup_s, mup_c, mup_j, mrw_c, if_pos, if_neg, zm_1, zm_2, zm_3, zm_4, zm_5, zm_6, zm_7, zm_8, zm_9, zf_0, zf_1, zf_2, zf_3, zf_4, zf_5, zf_6, zf_7, zf_8, zf_9, zf_10, zf_14, zf_15, zf_16, zf_18, zf_19, zf_20, zf_24, zf_30, zf_31, zf_32, zf_33, zf_99, zf_100, zf_160, zf_200, zf_287, zf_288, zf_300, zf_1000, zf_1023, zf_1024, zf_1600, zf_3840, zf_25600, zf_36000, zf_1000000, zf_1000000000, zf_2000000000, zf_11560, za_1, za_2, za_4, za_5, za_6, za_7, za_8, za_9, za_10, za_11, za_12, za_14, za_15, za_22, za_23, za_25, za_26, za_27, za_28, za_29, za_30, za_31, za_32, za_33, za_34, za_35, za_41, za_42, za_43, za_44, za_45, za_46, za_47, za_48, za_49, za_61, za_62, za_63, za_64, za_65, za_70, e42, hh, bI_t]
    rw [cal_t hst]
    simp (disch := omega) only [zi_t, zi_f, bnd_t, zg_in, zx, nI_ltI, nI_leI, nI_eq, nI_add, pk_mul, pk_sub, mup_s, mup_c, mup_j, mrw_c, if_pos, if_neg, zm_1, zm_2, zm_3, zm_4, zm_5, zm_6, zm_7, zm_8, zm_9, zf_0, zf_1, zf_2, zf_3, zf_4, zf_5, zf_6, zf_7, zf_8, zf_9, zf_10, zf_14, zf_15, zf_16, zf_18, zf_19, zf_20, zf_24, zf_30, zf_31, zf_32, zf_33, zf_99, zf_100, zf_160, zf_200, zf_287, zf_288, zf_300, zf_1000, zf_1023, zf_1024, zf_1600, zf_3840, zf_25600, zf_36000, zf_1000000, zf_1000000000, zf_2000000000, zf_11560, za_1, za_2, za_4, za_5, za_6, za_7, za_8, za_9, za_10, za_11, za_12, za_14, za_15, za_22, za_23, za_25, za_26, za_27, za_28, za_29, za_30, za_31, za_32, za_33, za_34, za_35, za_41, za_42, za_43, za_44, za_45, za_46, za_47, za_48, za_49, za_61, za_62, za_63, za_64, za_65, za_70, e42, e45, cell_at]
    rw [cal_t hw]
    cases wyB δ ch (32 * p + fr q.1) (cSt way q) (32 * p + too q.1) with
    | false => simp (disch := omega) only [zi_t, zi_f, bnd_t, zg_in, zx, nI_ltI, nI_leI, nI_eq, nI_add, pk_mul, pk_sub, mup_s, mup_c, mup_j, mrw_c, if_pos, if_neg, zm_1, zm_2, zm_3, zm_4, zm_5, zm_6, zm_7, zm_8, zm_9, zf_0, zf_1, zf_2, zf_3, zf_4, zf_5, zf_6, zf_7, zf_8, zf_9, zf_10, zf_14, zf_15, zf_16, zf_18, zf_19, zf_20, zf_24, zf_30, zf_31, zf_32, zf_33, zf_99, zf_100, zf_160, zf_200, zf_287, zf_288, zf_300, zf_1000, zf_1023, zf_1024, zf_1600, zf_3840, zf_25600, zf_36000, zf_1000000, zf_1000000000, zf_2000000000, zf_11560, za_1, za_2, za_4, za_5, za_6, za_7, za_8, za_9, za_10, za_11, za_12, za_14, za_15, za_22, za_23, za_25, za_26, za_27, za_28, za_29, za_30, za_31, za_32, za_33, za_34, za_35, za_41, za_42, za_43, za_44, za_45, za_46, za_47, za_48, za_49, za_61, za_62, za_63, za_64, za_65, za_70, bI_f, gd_t (show isb (nI 0) = true from rfl)]
    | true => simp (disch := omega) only [zi_t, zi_f, bnd_t, zg_in, zx, nI_ltI, nI_leI, nI_eq, nI_add, pk_mul, pk_sub, mup_s, mup_c, mup_j, mrw_c, if_pos, if_neg, zm_1, zm_2, zm_3, zm_4, zm_5, zm_6, zm_7, zm_8, zm_9, zf_0, zf_1, zf_2, zf_3, zf_4, zf_5, zf_6, zf_7, zf_8, zf_9, zf_10, zf_14, zf_15, zf_16, zf_18, zf_19, zf_20, zf_24, zf_30, zf_31, zf_32, zf_33, zf_99, zf_100, zf_160, zf_200, zf_287, zf_288, zf_300, zf_1000, zf_1023, zf_1024, zf_1600, zf_3840, zf_25600, zf_36000, zf_1000000, zf_1000000000, zf_2000000000, zf_11560, za_1, za_2, za_4, za_5, za_6, za_7, za_8, za_9, za_10, za_11, za_12, za_14, za_15, za_22, za_23, za_25, za_26, za_27, za_28, za_29, za_30, za_31, za_32, za_33, za_34, za_35, za_41, za_42, za_43, za_44, za_45, za_46, za_47, za_48, za_49, za_61, za_62, za_63, za_64, za_65, za_70, bI_t, gd_t (show isb (nI 1) = true from rfl)]
theorem wread {N a way n lv p j : Nat} {f : Nat → Bool} {L : ArL} {w : List Nat} {δ : Nat → Nat} {ch : Bool} {m : Mem} {q : Nat × Nat} (ha : 200 ≤ a) (ha2 : a < 300) (hk : (knd a == 3) = true) (h : SF m a way n f L w δ ch) (hok : DOK n L) (hl : L.length ≤ 160) (hn : n ≤ 32) (hway : way < 3) (hwl : w.length ≤ 8) (hwx : ∀ x, x ∈ w → x < 8) (hp : p ≤ w.length) (hlv : lv < 288) (hq : L[j]? = some q) : F_X4_isWayReading N m (nI j) (nI (9 * lv + p)) (nI p) = some (bI (tb (m 47 (9 * lv + p)) (fr q.1) && wyB δ ch (32 * p + fr q.1) (cRd way w p q) (32 * (p + 1) + too q.1)), m) := by
  have hj := (List.getElem?_eq_some_iff.mp hq).1
  have hqm := hok q (List.mem_of_getElem? hq)
  have hf1 := hqm.2.1
  have ht1 := hqm.2.2.1
  obtain ⟨⟨hS, hT⟩, hch⟩ := h
  obtain ⟨e42, e43, e44, e45⟩ := hS.2.2.2.2.2 j q hq
  have hh := holds_t (x := m 47 (9 * lv + p)) (s := fr q.1) (by omega)
  have hst := cl_read (N := N) ha ha2 hk hS hok hl hway hwl hwx hp hq
  obtain ⟨ea, la⟩ := hT p (fr q.1) (Nat.zero_le _) hp hf1
  have hw := cl_isWay (N := N) (va := 0) (vb := 0) (a := 32 * p + fr q.1) (b := 32 * (p + 1) + too q.1) (o := cRd way w p q) (x := nI (32 * (p + 1) + too q.1)) hch (by omega) ea la (fun c hc => by
    have hlt := cRd_lt hc
    obtain ⟨eb, lb⟩ := hT (p + 1) (too q.1) (Nat.zero_le _) (by omega) ht1
    exact ⟨rfl, by omega, eb, lb, cRd_le hqm hc⟩)
  unfold F_X4_isWayReading B_X4_isWayReading_57 B_X4_isWayReading_58
  cases ht : tb (m 47 (9 * lv + p)) (fr q.1) with
  | false =>
    rw [ht] at hh
    simp (disch := omega) only [zi_t, zi_f, bnd_t, zg_in, zx, nI_ltI, nI_leI, nI_eq, nI_add, pk_mul, pk_sub, mup_s, mup_c, mup_j, mrw_c, if_pos, if_neg, zm_1, zm_2, zm_3, zm_4, zm_5, zm_6, zm_7, zm_8, zm_9, zf_0, zf_1, zf_2, zf_3, zf_4, zf_5, zf_6, zf_7, zf_8, zf_9, zf_10, zf_14, zf_15, zf_16, zf_18, zf_19, zf_20, zf_24, zf_30, zf_31, zf_32, zf_33, zf_99, zf_100, zf_160, zf_200, zf_287, zf_288, zf_300, zf_1000, zf_1023, zf_1024, zf_1600, zf_3840, zf_25600, zf_36000, zf_1000000, zf_1000000000, zf_2000000000, zf_11560, za_1, za_2, za_4, za_5, za_6, za_7, za_8, za_9, za_10, za_11, za_12, za_14, za_15, za_22, za_23, za_25, za_26, za_27, za_28, za_29, za_30, za_31, za_32, za_33, za_34, za_35, za_41, za_42, za_43, za_44, za_45, za_46, za_47, za_48, za_49, za_61, za_62, za_63, za_64, za_65, za_70, e42, hh, bI_f, gd_t (show isb (nI 0) = true from rfl), Bool.false_and]
  | true =>
    rw [ht] at hh
    rw [Bool.true_and]
    simp (disch := omega) only [zi_t, zi_f, bnd_t, zg_in, zx, nI_ltI, nI_leI, nI_eq, nI_add, pk_mul, pk_sub, mup_s, mup_c, mup_j, mrw_c, if_pos, if_neg, zm_1, zm_2, zm_3, zm_4, zm_5, zm_6, zm_7, zm_8, zm_9, zf_0, zf_1, zf_2, zf_3, zf_4, zf_5, zf_6, zf_7, zf_8, zf_9, zf_10, zf_14, zf_15, zf_16, zf_18, zf_19, zf_20, zf_24, zf_30, zf_31, zf_32, zf_33, zf_99, zf_100, zf_160, zf_200, zf_287, zf_288, zf_300, zf_1000, zf_1023, zf_1024, zf_1600, zf_3840, zf_25600, zf_36000, zf_1000000, zf_1000000000, zf_2000000000, zf_11560, za_1, za_2, za_4, za_5, za_6, za_7, za_8, za_9, za_10, za_11, za_12, za_14, za_15, za_22, za_23, za_25, za_26, za_27, za_28, za_29, za_30, za_31, za_32, za_33, za_34, za_35, za_41, za_42, za_43, za_44, za_45, za_46, za_47, za_48, za_49, za_61, za_62, za_63, za_64, za_65, za_70, e42, hh, bI_t]
    rw [cal_t hst]
    simp (disch := omega) only [zi_t, zi_f, bnd_t, zg_in, zx, nI_ltI, nI_leI, nI_eq, nI_add, pk_mul, pk_sub, mup_s, mup_c, mup_j, mrw_c, if_pos, if_neg, zm_1, zm_2, zm_3, zm_4, zm_5, zm_6, zm_7, zm_8, zm_9, zf_0, zf_1, zf_2, zf_3, zf_4, zf_5, zf_6, zf_7, zf_8, zf_9, zf_10, zf_14, zf_15, zf_16, zf_18, zf_19, zf_20, zf_24, zf_30, zf_31, zf_32, zf_33, zf_99, zf_100, zf_160, zf_200, zf_287, zf_288, zf_300, zf_1000, zf_1023, zf_1024, zf_1600, zf_3840, zf_25600, zf_36000, zf_1000000, zf_1000000000, zf_2000000000, zf_11560, za_1, za_2, za_4, za_5, za_6, za_7, za_8, za_9, za_10, za_11, za_12, za_14, za_15, za_22, za_23, za_25, za_26, za_27, za_28, za_29, za_30, za_31, za_32, za_33, za_34, za_35, za_41, za_42, za_43, za_44, za_45, za_46, za_47, za_48, za_49, za_61, za_62, za_63, za_64, za_65, za_70, e42, e45, cell_at]
    rw [cal_t hw]
    cases wyB δ ch (32 * p + fr q.1) (cRd way w p q) (32 * (p + 1) + too q.1) with
    | false => simp (disch := omega) only [zi_t, zi_f, bnd_t, zg_in, zx, nI_ltI, nI_leI, nI_eq, nI_add, pk_mul, pk_sub, mup_s, mup_c, mup_j, mrw_c, if_pos, if_neg, zm_1, zm_2, zm_3, zm_4, zm_5, zm_6, zm_7, zm_8, zm_9, zf_0, zf_1, zf_2, zf_3, zf_4, zf_5, zf_6, zf_7, zf_8, zf_9, zf_10, zf_14, zf_15, zf_16, zf_18, zf_19, zf_20, zf_24, zf_30, zf_31, zf_32, zf_33, zf_99, zf_100, zf_160, zf_200, zf_287, zf_288, zf_300, zf_1000, zf_1023, zf_1024, zf_1600, zf_3840, zf_25600, zf_36000, zf_1000000, zf_1000000000, zf_2000000000, zf_11560, za_1, za_2, za_4, za_5, za_6, za_7, za_8, za_9, za_10, za_11, za_12, za_14, za_15, za_22, za_23, za_25, za_26, za_27, za_28, za_29, za_30, za_31, za_32, za_33, za_34, za_35, za_41, za_42, za_43, za_44, za_45, za_46, za_47, za_48, za_49, za_61, za_62, za_63, za_64, za_65, za_70, bI_f, gd_t (show isb (nI 0) = true from rfl)]
    | true => simp (disch := omega) only [zi_t, zi_f, bnd_t, zg_in, zx, nI_ltI, nI_leI, nI_eq, nI_add, pk_mul, pk_sub, mup_s, mup_c, mup_j, mrw_c, if_pos, if_neg, zm_1, zm_2, zm_3, zm_4, zm_5, zm_6, zm_7, zm_8, zm_9, zf_0, zf_1, zf_2, zf_3, zf_4, zf_5, zf_6, zf_7, zf_8, zf_9, zf_10, zf_14, zf_15, zf_16, zf_18, zf_19, zf_20, zf_24, zf_30, zf_31, zf_32, zf_33, zf_99, zf_100, zf_160, zf_200, zf_287, zf_288, zf_300, zf_1000, zf_1023, zf_1024, zf_1600, zf_3840, zf_25600, zf_36000, zf_1000000, zf_1000000000, zf_2000000000, zf_11560, za_1, za_2, za_4, za_5, za_6, za_7, za_8, za_9, za_10, za_11, za_12, za_14, za_15, za_22, za_23, za_25, za_26, za_27, za_28, za_29, za_30, za_31, za_32, za_33, za_34, za_35, za_41, za_42, za_43, za_44, za_45, za_46, za_47, za_48, za_49, za_61, za_62, za_63, za_64, za_65, za_70, bI_t, gd_t (show isb (nI 1) = true from rfl)]
