def NxK (way : Nat) (L : ArL) (w : List Nat) (δ : Nat → Nat) (ch : Bool) (x : Nat) (C : Nat → Prop) (b : Nat) : Prop := ∃ a, C a ∧ Sy way L w δ ch x a b
def LSo (way : Nat) (L : ArL) (w : List Nat) (δ : Nat → Nat) (ch : Bool) (C : Nat → Prop) (r : Int32) : Prop := ∀ x, x < 8 → tb r x = true → ∃ b, NxK way L w δ ch x C b
def LCo (way : Nat) (L : ArL) (w : List Nat) (δ : Nat → Nat) (ch : Bool) (m : Mem) (lv p J : Nat) (r : Int32) : Prop := ∀ j q, j < J → L[j]? = some q → syW way q ≠ 8 → tb (m 47 (9 * lv + p)) (fr q.1) = true → (wyB δ ch (32 * p + fr q.1) (cSt way q) (32 * p + too q.1) = true ∨ wyB δ ch (32 * p + fr q.1) (cRd way w p q) (32 * (p + 1) + too q.1) = true) → tb r (syW way q) = true
theorem cl_letters {N a way n lv : Nat} {f : Nat → Bool} {L : ArL} {w : List Nat} {δ : Nat → Nat} {ch : Bool} {m : Mem} {C : Nat → Prop} (hN : 40000 < N) (ha : 200 ≤ a) (ha2 : a < 300) (hk : (knd a == 3) = true) (h : SF m a way n f L w δ ch) (hok : DOK n L) (hl : L.length ≤ 160) (hn : n ≤ 32) (hway : way < 3) (hwl : w.length ≤ 8) (hwx : ∀ x, x ∈ w → x < 8) (hlv : lv < 288) (hC : KN n w C) (hR : RW' m w lv C) :
    ∃ r, F_X4_lettersFrom N m (nI lv) = some (r, m) ∧ ∀ x, x < 8 → (tb r x = true ↔ ∃ b, NxK way L w δ ch x C b) := by
  have e401 := h.1.1.2.2.1
  have e402 := h.1.1.2.1
  have eL := h.1.1.1.2.2.1
  have hfin : ∀ r, LSo way L w δ ch C r → (∀ p, p ≤ w.length → LCo way L w δ ch m lv p L.length r) → ∀ x, x < 8 → (tb r x = true ↔ ∃ b, NxK way L w δ ch x C b) := by
    intro r h1 h2 x hx
    refine ⟨h1 x hx, ?_⟩
    rintro ⟨b, a', ha', c, ⟨p, hp, hE⟩, hwa⟩
    rcases hE with ⟨q, hq, x1, x2, x3, x4⟩ | ⟨q, hq, x1, x2, x3, x4⟩ | ⟨t, ht, x1, x2, x3, x4⟩
    · have hqm := hok q hq
      have q1 := hqm.2.1
      obtain ⟨j, hj⟩ := List.getElem?_of_mem hq
      rw [x4]
      refine h2 p hp j q (List.getElem?_eq_some_iff.mp hj).1 hj (by omega) ((hR p (fr q.1) hp (by omega)).mpr (by rw [← x2]; exact ha')) (Or.inl (wyB_iff.mpr ⟨c, x1, by rw [← x2, ← x3]; exact hwa⟩))
    · have hqm := hok q hq
      have q1 := hqm.2.1
      obtain ⟨j, hj⟩ := List.getElem?_of_mem hq
      rw [x4]
      refine h2 p hp j q (List.getElem?_eq_some_iff.mp hj).1 hj (by omega) ((hR p (fr q.1) hp (by omega)).mpr (by rw [← x2]; exact ha')) (Or.inr (wyB_iff.mpr ⟨c, x1, by rw [← x2, ← x3]; exact hwa⟩))
    · omega
  unfold F_X4_lettersFrom
  refine loopF (σ := Int32) (fun g r p => L_X4_lettersFrom_4 N g m (nI lv) r (nI p)) (w.length + 1) (fun p r => LSo way L w δ ch C r ∧ ∀ q, q < p → q ≤ w.length → LCo way L w δ ch m lv q L.length r) (fun o => ∃ r, o = some (r, m) ∧ ∀ x, x < 8 → (tb r x = true ↔ ∃ b, NxK way L w δ ch x C b)) ?_ ?_ N 0 (nI 0) (Nat.zero_le _) ⟨(fun x _ hx => (by rw [tb_0] at hx; cases hx)), fun q hq => absurd hq (Nat.not_lt_zero _)⟩ (by omega)
  · rintro g p r hp ⟨i1, i2⟩
    have hp' : p ≤ w.length := by omega
    have eix : lv * 9 + p = 9 * lv + p := by omega
    left
    show ∃ s', _ ∧ S_X4_lettersFrom_4 N (L_X4_lettersFrom_4 N g) m (nI lv) r (nI p) = _
    unfold S_X4_lettersFrom_4 B_X4_lettersFrom_116
    by_cases c0 : m 47 (9 * lv + p) = nI 0
    · refine ⟨r, ⟨i1, fun q hq hq' => ?_⟩, ?_⟩
      · by_cases e : q = p
        · intro j q' hj hq2 hs hb
          rw [e, c0, tb_0] at hb; cases hb
        · exact i2 q (by omega) hq'
      · simp (disch := omega) only [zi_t, zi_f, bnd_t, zg_in, zx, nI_ltI, nI_leI, nI_eq, nI_add, pk_mul, pk_sub, mup_s, mup_c, mup_j, mrw_c, if_pos, if_neg, zm_1, zm_2, zm_3, zm_4, zm_5, zm_6, zm_7, zm_8, zm_9, zf_0, zf_1, zf_2, zf_3, zf_4, zf_5, zf_6, zf_7, zf_8, zf_9, zf_10, zf_14, zf_15, zf_16, zf_18, zf_19, zf_20, zf_24, zf_30, zf_31, zf_32, zf_33, zf_99, zf_100, zf_160, zf_200, zf_287, zf_288, zf_300, zf_1000, zf_1023, zf_1024, zf_1600, zf_3840, zf_25600, zf_36000, zf_1000000, zf_1000000000, zf_2000000000, zf_11560, za_1, za_2, za_4, za_5, za_6, za_7, za_8, za_9, za_10, za_11, za_12, za_14, za_15, za_22, za_23, za_25, za_26, za_27, za_28, za_29, za_30, za_31, za_32, za_33, za_34, za_35, za_41, za_42, za_43, za_44, za_45, za_46, za_47, za_48, za_49, za_61, za_62, za_63, za_64, za_65, za_70, e401, eix, c0]
    · simp (disch := omega) only [zi_t, zi_f, bnd_t, zg_in, zx, nI_ltI, nI_leI, nI_eq, nI_add, pk_mul, pk_sub, mup_s, mup_c, mup_j, mrw_c, if_pos, if_neg, zm_1, zm_2, zm_3, zm_4, zm_5, zm_6, zm_7, zm_8, zm_9, zf_0, zf_1, zf_2, zf_3, zf_4, zf_5, zf_6, zf_7, zf_8, zf_9, zf_10, zf_14, zf_15, zf_16, zf_18, zf_19, zf_20, zf_24, zf_30, zf_31, zf_32, zf_33, zf_99, zf_100, zf_160, zf_200, zf_287, zf_288, zf_300, zf_1000, zf_1023, zf_1024, zf_1600, zf_3840, zf_25600, zf_36000, zf_1000000, zf_1000000000, zf_2000000000, zf_11560, za_1, za_2, za_4, za_5, za_6, za_7, za_8, za_9, za_10, za_11, za_12, za_14, za_15, za_22, za_23, za_25, za_26, za_27, za_28, za_29, za_30, za_31, za_32, za_33, za_34, za_35, za_41, za_42, za_43, za_44, za_45, za_46, za_47, za_48, za_49, za_61, za_62, za_63, za_64, za_65, za_70, e401, eix, c0]
      refine loopF (σ := Int32) (fun k r j => L_X4_lettersFrom_33 N (L_X4_lettersFrom_4 N g) k m (nI lv) r (nI p) (nI (9 * lv + p)) (nI j)) L.length (fun j r => LSo way L w δ ch C r ∧ (∀ q, q < p → q ≤ w.length → LCo way L w δ ch m lv q L.length r) ∧ LCo way L w δ ch m lv p j r) (fun o => ∃ s', (LSo way L w δ ch C s' ∧ ∀ q, q < p + 1 → q ≤ w.length → LCo way L w δ ch m lv q L.length s') ∧ o = L_X4_lettersFrom_4 N g m (nI lv) s' (nI (p + 1))) ?_ ?_ N 0 r (Nat.zero_le _) ⟨i1, i2, fun j q hj => absurd hj (Nat.not_lt_zero _)⟩ (by omega)
      · rintro k j r hj ⟨j1, j2, j3⟩
        obtain ⟨q, hq⟩ : ∃ q, L[j]? = some q := ⟨_, List.getElem?_eq_getElem hj⟩
        have hqL := List.mem_of_getElem? hq
        have hqm := hok q hqL
        have hf1 := hqm.2.1
        have hsy := syW_le (way := way) hqm
        obtain ⟨e42, e43, e44, e45⟩ := h.1.1.2.2.2.2.2 j q hq
        have hws := wstay (N := N) ha ha2 hk h hok hl hn hway hwl hp' hlv hq
        have hwr := wread (N := N) ha ha2 hk h hok hl hn hway hwl hwx hp' hlv hq
        have hh := holds_t (x := r) (s := syW way q) (by omega)
        have hadd : ∀ j', LCo way L w δ ch m lv p j r → (syW way q ≠ 8 → tb (m 47 (9 * lv + p)) (fr q.1) = true → (wyB δ ch (32 * p + fr q.1) (cSt way q) (32 * p + too q.1) = true ∨ wyB δ ch (32 * p + fr q.1) (cRd way w p q) (32 * (p + 1) + too q.1) = true) → tb j' (syW way q) = true) → (∀ s, tb r s = true → tb j' s = true) → LCo way L w δ ch m lv p (j + 1) j' := by
          intro r' h3 hP hg j' q' hj' hq' hs hb hw
          by_cases e : j' = j
          · rw [e, hq] at hq'
            have e3 := Option.some.inj hq'
            subst e3
            exact hP hs hb hw
          · exact hg _ (h3 j' q' (by omega) hq' hs hb hw)
        have hset : syW way q ≠ 8 → tb (m 47 (9 * lv + p)) (fr q.1) = true → (wyB δ ch (32 * p + fr q.1) (cSt way q) (32 * p + too q.1) = true ∨ wyB δ ch (32 * p + fr q.1) (cRd way w p q) (32 * (p + 1) + too q.1) = true) → LSo way L w δ ch C (r ||| q_shl (nI 1) (nI (syW way q))) ∧ (∀ q', q' < p → q' ≤ w.length → LCo way L w δ ch m lv q' L.length (r ||| q_shl (nI 1) (nI (syW way q)))) ∧ LCo way L w δ ch m lv p (j + 1) (r ||| q_shl (nI 1) (nI (syW way q))) := by
          intro hs hb hw
          have hgrow : ∀ s, tb r s = true → tb (r ||| q_shl (nI 1) (nI (syW way q))) s = true := fun s hs => by rw [tb_or, hs, Bool.true_or]
          refine ⟨fun x hx hbx => ?_, fun q' h1 h2 j' r' hj' hr' hs' hb' hw' => hgrow _ (j2 q' h1 h2 j' r' hj' hr' hs' hb' hw'), hadd _ j3 (fun _ _ _ => by rw [tb_set (by omega) (by omega), decide_eq_true rfl, Bool.or_true]) hgrow⟩
          rw [tb_set (by omega) (by omega), Bool.or_eq_true] at hbx
          rcases hbx with hbx | hbx
          · exact j1 x hx hbx
          · have ex := of_decide_eq_true hbx
            have hCa := (hR p (fr q.1) hp' (by omega)).mp hb
            rcases hw with hw | hw
            · obtain ⟨c, y1, y2⟩ := wyB_iff.mp hw
              exact ⟨_, _, hCa, c, ⟨p, hp', Or.inl ⟨q, hqL, y1, rfl, rfl, ex⟩⟩, y2⟩
            · obtain ⟨c, y1, y2⟩ := wyB_iff.mp hw
              exact ⟨_, _, hCa, c, ⟨p, hp', Or.inr (Or.inl ⟨q, hqL, y1, rfl, rfl, ex⟩)⟩, y2⟩
        left
        show ∃ s', _ ∧ S_X4_lettersFrom_33 N (L_X4_lettersFrom_4 N g) (L_X4_lettersFrom_33 N (L_X4_lettersFrom_4 N g) k) m (nI lv) r (nI p) (nI (9 * lv + p)) (nI j) = _
        unfold S_X4_lettersFrom_33 B_X4_lettersFrom_98 B_X4_lettersFrom_110
        by_cases c8 : syW way q = 8
        · refine ⟨r, ⟨j1, j2, hadd r j3 (fun h => absurd c8 h) (fun _ h => h)⟩, ?_⟩
          rw [c8] at e44
          simp (disch := omega) only [zi_t, zi_f, bnd_t, zg_in, zx, nI_ltI, nI_leI, nI_eq, nI_add, pk_mul, pk_sub, mup_s, mup_c, mup_j, mrw_c, if_pos, if_neg, zm_1, zm_2, zm_3, zm_4, zm_5, zm_6, zm_7, zm_8, zm_9, zf_0, zf_1, zf_2, zf_3, zf_4, zf_5, zf_6, zf_7, zf_8, zf_9, zf_10, zf_14, zf_15, zf_16, zf_18, zf_19, zf_20, zf_24, zf_30, zf_31, zf_32, zf_33, zf_99, zf_100, zf_160, zf_200, zf_287, zf_288, zf_300, zf_1000, zf_1023, zf_1024, zf_1600, zf_3840, zf_25600, zf_36000, zf_1000000, zf_1000000000, zf_2000000000, zf_11560, za_1, za_2, za_4, za_5, za_6, za_7, za_8, za_9, za_10, za_11, za_12, za_14, za_15, za_22, za_23, za_25, za_26, za_27, za_28, za_29, za_30, za_31, za_32, za_33, za_34, za_35, za_41, za_42, za_43, za_44, za_45, za_46, za_47, za_48, za_49, za_61, za_62, za_63, za_64, za_65, za_70, e402, gd_t hk, eL, e44]
        · cases ht : tb r (syW way q) with
          | true =>
            rw [ht] at hh
            refine ⟨r, ⟨j1, j2, hadd r j3 (fun _ _ _ => ht) (fun _ h => h)⟩, ?_⟩
            simp (disch := omega) only [zi_t, zi_f, bnd_t, zg_in, zx, nI_ltI, nI_leI, nI_eq, nI_add, pk_mul, pk_sub, mup_s, mup_c, mup_j, mrw_c, if_pos, if_neg, zm_1, zm_2, zm_3, zm_4, zm_5, zm_6, zm_7, zm_8, zm_9, zf_0, zf_1, zf_2, zf_3, zf_4, zf_5, zf_6, zf_7, zf_8, zf_9, zf_10, zf_14, zf_15, zf_16, zf_18, zf_19, zf_20, zf_24, zf_30, zf_31, zf_32, zf_33, zf_99, zf_100, zf_160, zf_200, zf_287, zf_288, zf_300, zf_1000, zf_1023, zf_1024, zf_1600, zf_3840, zf_25600, zf_36000, zf_1000000, zf_1000000000, zf_2000000000, zf_11560, za_1, za_2, za_4, za_5, za_6, za_7, za_8, za_9, za_10, za_11, za_12, za_14, za_15, za_22, za_23, za_25, za_26, za_27, za_28, za_29, za_30, za_31, za_32, za_33, za_34, za_35, za_41, za_42, za_43, za_44, za_45, za_46, za_47, za_48, za_49, za_61, za_62, za_63, za_64, za_65, za_70, e402, gd_t hk, eL, e44, hh, bI_t]
          | false =>
            rw [ht] at hh
            cases hb1 : (tb (m 47 (9 * lv + p)) (fr q.1) && wyB δ ch (32 * p + fr q.1) (cSt way q) (32 * p + too q.1)) with
            | true =>
              rw [hb1] at hws
              rw [Bool.and_eq_true] at hb1
              refine ⟨_, hset c8 hb1.1 (Or.inl hb1.2), ?_⟩
              simp (disch := omega) only [zi_t, zi_f, bnd_t, zg_in, zx, nI_ltI, nI_leI, nI_eq, nI_add, pk_mul, pk_sub, mup_s, mup_c, mup_j, mrw_c, if_pos, if_neg, zm_1, zm_2, zm_3, zm_4, zm_5, zm_6, zm_7, zm_8, zm_9, zf_0, zf_1, zf_2, zf_3, zf_4, zf_5, zf_6, zf_7, zf_8, zf_9, zf_10, zf_14, zf_15, zf_16, zf_18, zf_19, zf_20, zf_24, zf_30, zf_31, zf_32, zf_33, zf_99, zf_100, zf_160, zf_200, zf_287, zf_288, zf_300, zf_1000, zf_1023, zf_1024, zf_1600, zf_3840, zf_25600, zf_36000, zf_1000000, zf_1000000000, zf_2000000000, zf_11560, za_1, za_2, za_4, za_5, za_6, za_7, za_8, za_9, za_10, za_11, za_12, za_14, za_15, za_22, za_23, za_25, za_26, za_27, za_28, za_29, za_30, za_31, za_32, za_33, za_34, za_35, za_41, za_42, za_43, za_44, za_45, za_46, za_47, za_48, za_49, za_61, za_62, za_63, za_64, za_65, za_70, e402, gd_t hk, eL, e44, hh, bI_f]
              rw [cal_t hws]
              simp (disch := omega) only [zi_t, zi_f, bnd_t, zg_in, zx, nI_ltI, nI_leI, nI_eq, nI_add, pk_mul, pk_sub, mup_s, mup_c, mup_j, mrw_c, if_pos, if_neg, zm_1, zm_2, zm_3, zm_4, zm_5, zm_6, zm_7, zm_8, zm_9, zf_0, zf_1, zf_2, zf_3, zf_4, zf_5, zf_6, zf_7, zf_8, zf_9, zf_10, zf_14, zf_15, zf_16, zf_18, zf_19, zf_20, zf_24, zf_30, zf_31, zf_32, zf_33, zf_99, zf_100, zf_160, zf_200, zf_287, zf_288, zf_300, zf_1000, zf_1023, zf_1024, zf_1600, zf_3840, zf_25600, zf_36000, zf_1000000, zf_1000000000, zf_2000000000, zf_11560, za_1, za_2, za_4, za_5, za_6, za_7, za_8, za_9, za_10, za_11, za_12, za_14, za_15, za_22, za_23, za_25, za_26, za_27, za_28, za_29, za_30, za_31, za_32, za_33, za_34, za_35, za_41, za_42, za_43, za_44, za_45, za_46, za_47, za_48, za_49, za_61, za_62, za_63, za_64, za_65, za_70, bI_t, e44]
            | false =>
              rw [hb1] at hws
              cases hb2 : (tb (m 47 (9 * lv + p)) (fr q.1) && wyB δ ch (32 * p + fr q.1) (cRd way w p q) (32 * (p + 1) + too q.1)) with
              | true =>
                rw [hb2] at hwr
                rw [Bool.and_eq_true] at hb2
                refine ⟨_, hset c8 hb2.1 (Or.inr hb2.2), ?_⟩
                simp (disch := omega) only [zi_t, zi_f, bnd_t, zg_in, zx, nI_ltI, nI_leI, nI_eq, nI_add, pk_mul, pk_sub, mup_s, mup_c, mup_j, mrw_c, if_pos, if_neg, zm_1, zm_2, zm_3, zm_4, zm_5, zm_6, zm_7, zm_8, zm_9, zf_0, zf_1, zf_2, zf_3, zf_4, zf_5, zf_6, zf_7, zf_8, zf_9, zf_10, zf_14, zf_15, zf_16, zf_18, zf_19, zf_20, zf_24, zf_30, zf_31, zf_32, zf_33, zf_99, zf_100, zf_160, zf_200, zf_287, zf_288, zf_300, zf_1000, zf_1023, zf_1024, zf_1600, zf_3840, zf_25600, zf_36000, zf_1000000, zf_1000000000, zf_2000000000, zf_11560, za_1, za_2, za_4, za_5, za_6, za_7, za_8, za_9, za_10, za_11, za_12, za_14, za_15, za_22, za_23, za_25, za_26, za_27, za_28, za_29, za_30, za_31, za_32, za_33, za_34, za_35, za_41, za_42, za_43, za_44, za_45, za_46, za_47, za_48, za_49, za_61, za_62, za_63, za_64, za_65, za_70, e402, gd_t hk, eL, e44, hh, bI_f]
                rw [cal_t hws]
                simp (disch := omega) only [zi_t, zi_f, bnd_t, zg_in, zx, nI_ltI, nI_leI, nI_eq, nI_add, pk_mul, pk_sub, mup_s, mup_c, mup_j, mrw_c, if_pos, if_neg, zm_1, zm_2, zm_3, zm_4, zm_5, zm_6, zm_7, zm_8, zm_9, zf_0, zf_1, zf_2, zf_3, zf_4, zf_5, zf_6, zf_7, zf_8, zf_9, zf_10, zf_14, zf_15, zf_16, zf_18, zf_19, zf_20, zf_24, zf_30, zf_31, zf_32, zf_33, zf_99, zf_100, zf_160, zf_200, zf_287, zf_288, zf_300, zf_1000, zf_1023, zf_1024, zf_1600, zf_3840, zf_25600, zf_36000, zf_1000000, zf_1000000000, zf_2000000000, zf_11560, za_1, za_2, za_4, za_5, za_6, za_7, za_8, za_9, za_10, za_11, za_12, za_14, za_15, za_22, za_23, za_25, za_26, za_27, za_28, za_29, za_30, za_31, za_32, za_33, za_34, za_35, za_41, za_42, za_43, za_44, za_45, za_46, za_47, za_48, za_49, za_61, za_62, za_63, za_64, za_65, za_70, bI_f]
                rw [cal_t hwr]
                simp (disch := omega) only [zi_t, zi_f, bnd_t, zg_in, zx, nI_ltI, nI_leI, nI_eq, nI_add, pk_mul, pk_sub, mup_s, mup_c, mup_j, mrw_c, if_pos, if_neg, zm_1, zm_2, zm_3, zm_4, zm_5, zm_6, zm_7, zm_8, zm_9, zf_0, zf_1, zf_2, zf_3, zf_4, zf_5, zf_6, zf_7, zf_8, zf_9, zf_10, zf_14, zf_15, zf_16, zf_18, zf_19, zf_20, zf_24, zf_30, zf_31, zf_32, zf_33, zf_99, zf_100, zf_160, zf_200, zf_287, zf_288, zf_300, zf_1000, zf_1023, zf_1024, zf_1600, zf_3840, zf_25600, zf_36000, zf_1000000, zf_1000000000, zf_2000000000, zf_11560, za_1, za_2, za_4, za_5, za_6, za_7, za_8, za_9, za_10, za_11, za_12, za_14, za_15, za_22, za_23, za_25, za_26, za_27, za_28, za_29, za_30, za_31, za_32, za_33, za_34, za_35, za_41, za_42, za_43, za_44, za_45, za_46, za_47, za_48, za_49, za_61, za_62, za_63, za_64, za_65, za_70, bI_t, e44]
              | false =>
                rw [hb2] at hwr
                refine ⟨r, ⟨j1, j2, hadd r j3 (fun _ hb hw => ?_) (fun _ h => h)⟩, ?_⟩
                · rcases hw with hw | hw
                  · rw [hb, hw] at hb1; cases hb1
                  · rw [hb, hw] at hb2; cases hb2
                · simp (disch := omega) only [zi_t, zi_f, bnd_t, zg_in, zx, nI_ltI, nI_leI, nI_eq, nI_add, pk_mul, pk_sub, mup_s, mup_c, mup_j, mrw_c, if_pos, if_neg, zm_1, zm_2, zm_3, zm_4, zm_5, zm_6, zm_7, zm_8, zm_9, zf_0, zf_1, zf_2, zf_3, zf_4, zf_5, zf_6, zf_7, zf_8, zf_9, zf_10, zf_14, zf_15, zf_16, zf_18, zf_19, zf_20, zf_24, zf_30, zf_31, zf_32, zf_33, zf_99, zf_100, zf_160, zf_200, zf_287, zf_288, zf_300, zf_1000, zf_1023, zf_1024, zf_1600, zf_3840, zf_25600, zf_36000, zf_1000000, zf_1000000000, zf_2000000000, zf_11560, za_1, za_2, za_4, za_5, za_6, za_7, za_8, za_9, za_10, za_11, za_12, za_14, za_15, za_22, za_23, za_25, za_26, za_27, za_28, za_29, za_30, za_31, za_32, za_33, za_34, za_35, za_41, za_42, za_43, za_44, za_45, za_46, za_47, za_48, za_49, za_61, za_62, za_63, za_64, za_65, za_70, e402, gd_t hk, eL, e44, hh, bI_f]
                  rw [cal_t hws]
                  simp (disch := omega) only [zi_t, zi_f, bnd_t, zg_in, zx, nI_ltI, nI_leI, nI_eq, nI_add, pk_mul, pk_sub, mup_s, mup_c, mup_j, mrw_c, if_pos, if_neg, zm_1, zm_2, zm_3, zm_4, zm_5, zm_6, zm_7, zm_8, zm_9, zf_0, zf_1, zf_2, zf_3, zf_4, zf_5, zf_6, zf_7, zf_8, zf_9, zf_10, zf_14, zf_15, zf_16, zf_18, zf_19, zf_20, zf_24, zf_30, zf_31, zf_32, zf_33, zf_99, zf_100, zf_160, zf_200, zf_287, zf_288, zf_300, zf_1000, zf_1023, zf_1024, zf_1600, zf_3840, zf_25600, zf_36000, zf_1000000, zf_1000000000, zf_2000000000, zf_11560, za_1, za_2, za_4, za_5, za_6, za_7, za_8, za_9, za_10, za_11, za_12, za_14, za_15, za_22, za_23, za_25, za_26, za_27, za_28, za_29, za_30, za_31, za_32, za_33, za_34, za_35, za_41, za_42, za_43, za_44, za_45, za_46, za_47, za_48, za_49, za_61, za_62, za_63, za_64, za_65, za_70, bI_f]
                  rw [cal_t hwr]
                  simp (disch := omega) only [zi_t, zi_f, bnd_t, zg_in, zx, nI_ltI, nI_leI, nI_eq, nI_add, pk_mul, pk_sub, mup_s, mup_c, mup_j, mrw_c, if_pos, if_neg, zm_1, zm_2, zm_3, zm_4, zm_5, zm_6, zm_7, zm_8, zm_9, zf_0, zf_1, zf_2, zf_3, zf_4, zf_5, zf_6, zf_7, zf_8, zf_9, zf_10, zf_14, zf_15, zf_16, zf_18, zf_19, zf_20, zf_24, zf_30, zf_31, zf_32, zf_33, zf_99, zf_100, zf_160, zf_200, zf_287, zf_288, zf_300, zf_1000, zf_1023, zf_1024, zf_1600, zf_3840, zf_25600, zf_36000, zf_1000000, zf_1000000000, zf_2000000000, zf_11560, za_1, za_2, za_4, za_5, za_6, za_7, za_8, za_9, za_10, za_11, za_12, za_14, za_15, za_22, za_23, za_25, za_26, za_27, za_28, za_29, za_30, za_31, za_32, za_33, za_34, za_35, za_41, za_42, za_43, za_44, za_45, za_46, za_47, za_48, za_49, za_61, za_62, za_63, za_64, za_65, za_70, bI_f]
      · rintro k r ⟨j1, j2, j3⟩
        refine ⟨r, ⟨j1, fun q hq hq' => ?_⟩, ?_⟩
        · by_cases e : q = p
          · rw [e]; exact j3
          · exact j2 q (by omega) hq'
        · show S_X4_lettersFrom_33 N (L_X4_lettersFrom_4 N g) (L_X4_lettersFrom_33 N (L_X4_lettersFrom_4 N g) k) m (nI lv) r (nI p) (nI (9 * lv + p)) (nI L.length) = _
          unfold S_X4_lettersFrom_33 B_X4_lettersFrom_116
          simp (disch := omega) only [zi_t, zi_f, bnd_t, zg_in, zx, nI_ltI, nI_leI, nI_eq, nI_add, pk_mul, pk_sub, mup_s, mup_c, mup_j, mrw_c, if_pos, if_neg, zm_1, zm_2, zm_3, zm_4, zm_5, zm_6, zm_7, zm_8, zm_9, zf_0, zf_1, zf_2, zf_3, zf_4, zf_5, zf_6, zf_7, zf_8, zf_9, zf_10, zf_14, zf_15, zf_16, zf_18, zf_19, zf_20, zf_24, zf_30, zf_31, zf_32, zf_33, zf_99, zf_100, zf_160, zf_200, zf_287, zf_288, zf_300, zf_1000, zf_1023, zf_1024, zf_1600, zf_3840, zf_25600, zf_36000, zf_1000000, zf_1000000000, zf_2000000000, zf_11560, za_1, za_2, za_4, za_5, za_6, za_7, za_8, za_9, za_10, za_11, za_12, za_14, za_15, za_22, za_23, za_25, za_26, za_27, za_28, za_29, za_30, za_31, za_32, za_33, za_34, za_35, za_41, za_42, za_43, za_44, za_45, za_46, za_47, za_48, za_49, za_61, za_62, za_63, za_64, za_65, za_70, e402, gd_t hk, eL]
  · rintro g r ⟨i1, i2⟩
    refine ⟨r, ?_, hfin r i1 (fun p hp => i2 p (by omega) hp)⟩
    show S_X4_lettersFrom_4 N (L_X4_lettersFrom_4 N g) m (nI lv) r (nI (w.length + 1)) = _
    unfold S_X4_lettersFrom_4
    simp (disch := omega) only [zi_t, zi_f, bnd_t, zg_in, zx, nI_ltI, nI_leI, nI_eq, nI_add, pk_mul, pk_sub, mup_s, mup_c, mup_j, mrw_c, if_pos, if_neg, zm_1, zm_2, zm_3, zm_4, zm_5, zm_6, zm_7, zm_8, zm_9, zf_0, zf_1, zf_2, zf_3, zf_4, zf_5, zf_6, zf_7, zf_8, zf_9, zf_10, zf_14, zf_15, zf_16, zf_18, zf_19, zf_20, zf_24, zf_30, zf_31, zf_32, zf_33, zf_99, zf_100, zf_160, zf_200, zf_287, zf_288, zf_300, zf_1000, zf_1023, zf_1024, zf_1600, zf_3840, zf_25600, zf_36000, zf_1000000, zf_1000000000, zf_2000000000, zf_11560, za_1, za_2, za_4, za_5, za_6, za_7, za_8, za_9, za_10, za_11, za_12, za_14, za_15, za_22, za_23, za_25, za_26, za_27, za_28, za_29, za_30, za_31, za_32, za_33, za_34, za_35, za_41, za_42, za_43, za_44, za_45, za_46, za_47, za_48, za_49, za_61, za_62, za_63, za_64, za_65, za_70, e401]
