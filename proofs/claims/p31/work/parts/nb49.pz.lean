def StC (way : Nat) (L : ArL) (w : List Nat) (δ : Nat → Nat) (ch : Bool) (m m' : Mem) (lv x p J : Nat) : Prop := ∀ j q, j < J → L[j]? = some q → syW way q = x → tb (m 47 (9 * lv + p)) (fr q.1) = true → (wyB δ ch (32 * p + fr q.1) (cSt way q) (32 * p + too q.1) = true → tb (m' 47 (9 * (lv + 1) + p)) (too q.1) = true) ∧ (wyB δ ch (32 * p + fr q.1) (cRd way w p q) (32 * (p + 1) + too q.1) = true → tb (m' 47 (9 * (lv + 1) + (p + 1))) (too q.1) = true)
def StS (way : Nat) (L : ArL) (w : List Nat) (δ : Nat → Nat) (ch : Bool) (C : Nat → Prop) (m' : Mem) (lv x : Nat) : Prop := ∀ p s, p ≤ w.length → s < 32 → tb (m' 47 (9 * (lv + 1) + p)) s = true → NxK way L w δ ch x C (32 * p + s)
theorem StC.gr {way : Nat} {L : ArL} {w : List Nat} {δ : Nat → Nat} {ch : Bool} {m m' m'' : Mem} {lv x p J : Nat} (h : StC way L w δ ch m m' lv x p J) (hg : ∀ k s, tb (m' 47 k) s = true → tb (m'' 47 k) s = true) : StC way L w δ ch m m'' lv x p J := fun j q hj hq hs hb => ⟨fun hw => hg _ _ ((h j q hj hq hs hb).1 hw), fun hw => hg _ _ ((h j q hj hq hs hb).2 hw)⟩
theorem gr_up {m : Mem} {k t : Nat} (ht : t < 32) : ∀ k' s, tb (m 47 k') s = true → tb (mup m 47 k (m 47 k ||| q_shl (nI 1) (nI t)) 47 k') s = true := by
  intro k' s hb
  by_cases e : k' = k
  · subst e
    rw [mup_s, tb_or, hb, Bool.true_or]
  · rw [mup_j e]; exact hb
theorem cl_step {N a way n lv x : Nat} {f : Nat → Bool} {L : ArL} {w : List Nat} {δ : Nat → Nat} {ch : Bool} {m : Mem} {C : Nat → Prop} (hN : 40000 < N) (ha : 200 ≤ a) (ha2 : a < 300) (hk : (knd a == 3) = true) (h : SF m a way n f L w δ ch) (hok : DOK n L) (hl : L.length ≤ 160) (hn : n ≤ 32) (hway : way < 3) (hwl : w.length ≤ 8) (hwx : ∀ x, x ∈ w → x < 8) (hlv : lv + 1 < 288) (hx : x < 8) (hC : KN n w C) (hR : RW' m w lv C) :
    ∃ m', F_X4_step N m (nI lv) (nI x) = some m' ∧ OL (lv + 1) m m' ∧ RW' m' w (lv + 1) (NxK way L w δ ch x C) := by
  obtain ⟨m0, c1, c2, c3⟩ := cl_clear (N := N) (lv := lv + 1) (m := m) hN hlv
  have hrow : ∀ m', OL (lv + 1) m m' → ∀ p, p < 9 → m' 47 (9 * lv + p) = m 47 (9 * lv + p) := fun m' ho p hp => ho.2 _ (by omega)
  unfold F_X4_step
  simp (disch := omega) only [zi_t, zi_f, bnd_t, zg_in, zx, nI_ltI, nI_leI, nI_eq, nI_add, pk_mul, pk_sub, mup_s, mup_c, mup_j, mrw_c, if_pos, if_neg, zm_1, zm_2, zm_3, zm_4, zm_5, zm_6, zm_7, zm_8, zm_9, zf_0, zf_1, zf_2, zf_3, zf_4, zf_5, zf_6, zf_7, zf_8, zf_9, zf_10, zf_14, zf_15, zf_16, zf_18, zf_19, zf_20, zf_24, zf_30, zf_31, zf_32, zf_33, zf_99, zf_100, zf_160, zf_200, zf_287, zf_288, zf_300, zf_1000, zf_1023, zf_1024, zf_1600, zf_3840, zf_25600, zf_36000, zf_1000000, zf_1000000000, zf_2000000000, zf_11560, za_1, za_2, za_4, za_5, za_6, za_7, za_8, za_9, za_10, za_11, za_12, za_14, za_15, za_22, za_23, za_25, za_26, za_27, za_28, za_29, za_30, za_31, za_32, za_33, za_34, za_35, za_41, za_42, za_43, za_44, za_45, za_46, za_47, za_48, za_49, za_61, za_62, za_63, za_64, za_65, za_70]
  rw [calv_t c1]
  refine loopF (fun g (m : Mem) p => L_X4_step_9 N g m (nI lv) (nI x) (nI p)) (w.length + 1) (fun p m' => OL (lv + 1) m m' ∧ StS way L w δ ch C m' lv x ∧ ∀ q, q < p → q ≤ w.length → StC way L w δ ch m m' lv x q L.length) (fun o => ∃ m', o = some m' ∧ OL (lv + 1) m m' ∧ RW' m' w (lv + 1) (NxK way L w δ ch x C)) ?_ ?_ N 0 m0 (Nat.zero_le _) ⟨c2, (fun p s hp hs hb => (by rw [c3 p (by omega), tb_0] at hb; cases hb)), fun q hq => absurd hq (Nat.not_lt_zero _)⟩ (by omega)
  · rintro g p m1 hp ⟨i1, i2, i3⟩
    have hp' : p ≤ w.length := by omega
    have h1 := h.off ha i1.off
    have e401 := h1.1.1.2.2.1
    have eix : lv * 9 + p = 9 * lv + p := by omega
    have ek := hrow m1 i1 p (by omega)
    left
    show ∃ s', _ ∧ S_X4_step_9 N (L_X4_step_9 N g) m1 (nI lv) (nI x) (nI p) = _
    unfold S_X4_step_9 B_X4_step_151
    by_cases c0 : m1 47 (9 * lv + p) = nI 0
    · refine ⟨m1, ⟨i1, i2, fun q hq hq' => ?_⟩, ?_⟩
      · by_cases e : q = p
        · intro j r hj hr hs hb
          rw [e, ← ek, c0, tb_0] at hb; cases hb
        · exact i3 q (by omega) hq'
      · simp (disch := omega) only [zi_t, zi_f, bnd_t, zg_in, zx, nI_ltI, nI_leI, nI_eq, nI_add, pk_mul, pk_sub, mup_s, mup_c, mup_j, mrw_c, if_pos, if_neg, zm_1, zm_2, zm_3, zm_4, zm_5, zm_6, zm_7, zm_8, zm_9, zf_0, zf_1, zf_2, zf_3, zf_4, zf_5, zf_6, zf_7, zf_8, zf_9, zf_10, zf_14, zf_15, zf_16, zf_18, zf_19, zf_20, zf_24, zf_30, zf_31, zf_32, zf_33, zf_99, zf_100, zf_160, zf_200, zf_287, zf_288, zf_300, zf_1000, zf_1023, zf_1024, zf_1600, zf_3840, zf_25600, zf_36000, zf_1000000, zf_1000000000, zf_2000000000, zf_11560, za_1, za_2, za_4, za_5, za_6, za_7, za_8, za_9, za_10, za_11, za_12, za_14, za_15, za_22, za_23, za_25, za_26, za_27, za_28, za_29, za_30, za_31, za_32, za_33, za_34, za_35, za_41, za_42, za_43, za_44, za_45, za_46, za_47, za_48, za_49, za_61, za_62, za_63, za_64, za_65, za_70, e401, eix, c0]
    · simp (disch := omega) only [zi_t, zi_f, bnd_t, zg_in, zx, nI_ltI, nI_leI, nI_eq, nI_add, pk_mul, pk_sub, mup_s, mup_c, mup_j, mrw_c, if_pos, if_neg, zm_1, zm_2, zm_3, zm_4, zm_5, zm_6, zm_7, zm_8, zm_9, zf_0, zf_1, zf_2, zf_3, zf_4, zf_5, zf_6, zf_7, zf_8, zf_9, zf_10, zf_14, zf_15, zf_16, zf_18, zf_19, zf_20, zf_24, zf_30, zf_31, zf_32, zf_33, zf_99, zf_100, zf_160, zf_200, zf_287, zf_288, zf_300, zf_1000, zf_1023, zf_1024, zf_1600, zf_3840, zf_25600, zf_36000, zf_1000000, zf_1000000000, zf_2000000000, zf_11560, za_1, za_2, za_4, za_5, za_6, za_7, za_8, za_9, za_10, za_11, za_12, za_14, za_15, za_22, za_23, za_25, za_26, za_27, za_28, za_29, za_30, za_31, za_32, za_33, za_34, za_35, za_41, za_42, za_43, za_44, za_45, za_46, za_47, za_48, za_49, za_61, za_62, za_63, za_64, za_65, za_70, e401, eix, c0]
      refine loopF (fun k (m : Mem) j => L_X4_step_38 N (L_X4_step_9 N g) k m (nI lv) (nI x) (nI p) (nI (9 * lv + p)) (nI j)) L.length (fun j m' => OL (lv + 1) m m' ∧ StS way L w δ ch C m' lv x ∧ (∀ q, q < p → q ≤ w.length → StC way L w δ ch m m' lv x q L.length) ∧ StC way L w δ ch m m' lv x p j) (fun o => ∃ s', (OL (lv + 1) m s' ∧ StS way L w δ ch C s' lv x ∧ ∀ q, q < p + 1 → q ≤ w.length → StC way L w δ ch m s' lv x q L.length) ∧ o = L_X4_step_9 N g s' (nI lv) (nI x) (nI (p + 1))) ?_ ?_ N 0 m1 (Nat.zero_le _) ⟨i1, i2, i3, fun j q hj => absurd hj (Nat.not_lt_zero _)⟩ (by omega)
      · rintro k j m2 hj ⟨j1, j2, j3, j4⟩
        obtain ⟨q, hq⟩ : ∃ q, L[j]? = some q := ⟨_, List.getElem?_eq_getElem hj⟩
        have hqL := List.mem_of_getElem? hq
        have hqm := hok q hqL
        have hf1 := hqm.2.1
        have ht1 := hqm.2.2.1
        have hsy := syW_le (way := way) hqm
        have h2 := h.off ha j1.off
        obtain ⟨e42, e43, e44, e45⟩ := h2.1.1.2.2.2.2.2 j q hq
        have e402 := h2.1.1.2.1
        have eL := h2.1.1.1.2.2.1
        have ek2 := hrow m2 j1 p (by omega)
        have hws := wstay (N := N) ha ha2 hk h2 hok hl hn hway hwl hp' (by omega : lv < 288) hq
        have hstep : ∀ m3, OL (lv + 1) m m3 → (∀ k s, tb (m2 47 k) s = true → tb (m3 47 k) s = true) → StS way L w δ ch C m3 lv x → (syW way q = x → tb (m 47 (9 * lv + p)) (fr q.1) = true → (wyB δ ch (32 * p + fr q.1) (cSt way q) (32 * p + too q.1) = true → tb (m3 47 (9 * (lv + 1) + p)) (too q.1) = true) ∧ (wyB δ ch (32 * p + fr q.1) (cRd way w p q) (32 * (p + 1) + too q.1) = true → tb (m3 47 (9 * (lv + 1) + (p + 1))) (too q.1) = true)) → OL (lv + 1) m m3 ∧ StS way L w δ ch C m3 lv x ∧ (∀ q, q < p → q ≤ w.length → StC way L w δ ch m m3 lv x q L.length) ∧ StC way L w δ ch m m3 lv x p (j + 1) := by
          intro m3 ho hg hs hP
          refine ⟨ho, hs, fun q h1 h2 => (j3 q h1 h2).gr hg, fun j' q' hj' hq' hs' hb => ?_⟩
          by_cases e : j' = j
          · rw [e, hq] at hq'
            have e3 := Option.some.inj hq'
            subst e3
            exact hP hs' hb
          · exact (j4.gr hg) j' q' (by omega) hq' hs' hb
        left
        show ∃ s', _ ∧ S_X4_step_38 N (L_X4_step_9 N g) (L_X4_step_38 N (L_X4_step_9 N g) k) m2 (nI lv) (nI x) (nI p) (nI (9 * lv + p)) (nI j) = _
        by_cases c8 : syW way q = x
        · rw [c8] at e44
          have hCa : tb (m2 47 (9 * lv + p)) (fr q.1) = true → C (32 * p + fr q.1) := fun hb => (hR p (fr q.1) hp' (by omega)).mp (by rw [← ek2]; exact hb)
          have h98 : ∀ m3, OL (lv + 1) m m3 → (∀ k s, tb (m2 47 k) s = true → tb (m3 47 k) s = true) → StS way L w δ ch C m3 lv x → (tb (m 47 (9 * lv + p)) (fr q.1) = true → wyB δ ch (32 * p + fr q.1) (cSt way q) (32 * p + too q.1) = true → tb (m3 47 (9 * (lv + 1) + p)) (too q.1) = true) → ∃ s', (OL (lv + 1) m s' ∧ StS way L w δ ch C s' lv x ∧ (∀ q, q < p → q ≤ w.length → StC way L w δ ch m s' lv x q L.length) ∧ StC way L w δ ch m s' lv x p (j + 1)) ∧ B_X4_step_98 N (L_X4_step_9 N g) (L_X4_step_38 N (L_X4_step_9 N g) k) m3 (nI lv) (nI x) (nI p) (nI (9 * lv + p)) (nI j) = L_X4_step_38 N (L_X4_step_9 N g) k s' (nI lv) (nI x) (nI p) (nI (9 * lv + p)) (nI (j + 1)) := by
            intro m3 ho hg hs hP
            have h3 := h.off ha ho.off
            obtain ⟨_, _, f44, f45⟩ := h3.1.1.2.2.2.2.2 j q hq
            rw [c8] at f44
            have ek3 := hrow m3 ho p (by omega)
            have hwr := wread (N := N) ha ha2 hk h3 hok hl hn hway hwl hwx hp' (by omega : lv < 288) hq
            unfold B_X4_step_98 B_X4_step_145
            cases hb2 : (tb (m3 47 (9 * lv + p)) (fr q.1) && wyB δ ch (32 * p + fr q.1) (cRd way w p q) (32 * (p + 1) + too q.1)) with
            | false =>
              rw [hb2] at hwr
              refine ⟨m3, hstep m3 ho hg hs (fun _ hb => ⟨hP hb, fun hw => by rw [ek3, hb, hw] at hb2; cases hb2⟩), ?_⟩
              simp (disch := omega) only [zi_t, zi_f, bnd_t, zg_in, zx, nI_ltI, nI_leI, nI_eq, nI_add, pk_mul, pk_sub, mup_s, mup_c, mup_j, mrw_c, if_pos, if_neg, zm_1, zm_2, zm_3, zm_4, zm_5, zm_6, zm_7, zm_8, zm_9, zf_0, zf_1, zf_2, zf_3, zf_4, zf_5, zf_6, zf_7, zf_8, zf_9, zf_10, zf_14, zf_15, zf_16, zf_18, zf_19, zf_20, zf_24, zf_30, zf_31, zf_32, zf_33, zf_99, zf_100, zf_160, zf_200, zf_287, zf_288, zf_300, zf_1000, zf_1023, zf_1024, zf_1600, zf_3840, zf_25600, zf_36000, zf_1000000, zf_1000000000, zf_2000000000, zf_11560, za_1, za_2, za_4, za_5, za_6, za_7, za_8, za_9, za_10, za_11, za_12, za_14, za_15, za_22, za_23, za_25, za_26, za_27, za_28, za_29, za_30, za_31, za_32, za_33, za_34, za_35, za_41, za_42, za_43, za_44, za_45, za_46, za_47, za_48, za_49, za_61, za_62, za_63, za_64, za_65, za_70, f44]
              rw [cal_t hwr]
              simp (disch := omega) only [zi_t, zi_f, bnd_t, zg_in, zx, nI_ltI, nI_leI, nI_eq, nI_add, pk_mul, pk_sub, mup_s, mup_c, mup_j, mrw_c, if_pos, if_neg, zm_1, zm_2, zm_3, zm_4, zm_5, zm_6, zm_7, zm_8, zm_9, zf_0, zf_1, zf_2, zf_3, zf_4, zf_5, zf_6, zf_7, zf_8, zf_9, zf_10, zf_14, zf_15, zf_16, zf_18, zf_19, zf_20, zf_24, zf_30, zf_31, zf_32, zf_33, zf_99, zf_100, zf_160, zf_200, zf_287, zf_288, zf_300, zf_1000, zf_1023, zf_1024, zf_1600, zf_3840, zf_25600, zf_36000, zf_1000000, zf_1000000000, zf_2000000000, zf_11560, za_1, za_2, za_4, za_5, za_6, za_7, za_8, za_9, za_10, za_11, za_12, za_14, za_15, za_22, za_23, za_25, za_26, za_27, za_28, za_29, za_30, za_31, za_32, za_33, za_34, za_35, za_41, za_42, za_43, za_44, za_45, za_46, za_47, za_48, za_49, za_61, za_62, za_63, za_64, za_65, za_70, bI_f]
            | true =>
              rw [hb2] at hwr
              rw [Bool.and_eq_true] at hb2
              have hpl := wy_rd hb2.2
              have ekk : 9 * lv + p + 9 + 1 = 9 * (lv + 1) + (p + 1) := by omega
              have hg2 := gr_up (m := m3) (k := 9 * (lv + 1) + (p + 1)) (t := too q.1) (by omega)
              refine ⟨mup m3 47 (9 * (lv + 1) + (p + 1)) (m3 47 (9 * (lv + 1) + (p + 1)) ||| q_shl (nI 1) (nI (too q.1))), hstep _ ⟨fun c hc => by rw [mup_r hc, ho.1 c hc], fun j hj => by rw [mup_j (by omega), ho.2 j hj]⟩ (fun k s hb => hg2 k s (hg k s hb)) (fun p' s hp2 hs2 hb => ?_) (fun _ hb => ⟨fun hw => hg2 _ _ (hP hb hw), fun _ => ?_⟩), ?_⟩
              · by_cases e : p' = p + 1
                · subst e
                  rw [mup_s, tb_set (by omega) hs2, Bool.or_eq_true] at hb
                  rcases hb with hb | hb
                  · exact hs _ s hp2 hs2 hb
                  · rw [of_decide_eq_true hb]
                    obtain ⟨c, y1, y2⟩ := wyB_iff.mp hb2.2
                    exact ⟨_, (hR p (fr q.1) hp' (by omega)).mp (by rw [← ek3]; exact hb2.1), c, ⟨p, hp', Or.inr (Or.inl ⟨q, hqL, y1, rfl, rfl, c8.symm⟩)⟩, y2⟩
                · rw [mup_j (by omega)] at hb
                  exact hs p' s hp2 hs2 hb
              · rw [mup_s, tb_set (by omega) (by omega), decide_eq_true rfl, Bool.or_true]
              · simp (disch := omega) only [zi_t, zi_f, bnd_t, zg_in, zx, nI_ltI, nI_leI, nI_eq, nI_add, pk_mul, pk_sub, mup_s, mup_c, mup_j, mrw_c, if_pos, if_neg, zm_1, zm_2, zm_3, zm_4, zm_5, zm_6, zm_7, zm_8, zm_9, zf_0, zf_1, zf_2, zf_3, zf_4, zf_5, zf_6, zf_7, zf_8, zf_9, zf_10, zf_14, zf_15, zf_16, zf_18, zf_19, zf_20, zf_24, zf_30, zf_31, zf_32, zf_33, zf_99, zf_100, zf_160, zf_200, zf_287, zf_288, zf_300, zf_1000, zf_1023, zf_1024, zf_1600, zf_3840, zf_25600, zf_36000, zf_1000000, zf_1000000000, zf_2000000000, zf_11560, za_1, za_2, za_4, za_5, za_6, za_7, za_8, za_9, za_10, za_11, za_12, za_14, za_15, za_22, za_23, za_25, za_26, za_27, za_28, za_29, za_30, za_31, za_32, za_33, za_34, za_35, za_41, za_42, za_43, za_44, za_45, za_46, za_47, za_48, za_49, za_61, za_62, za_63, za_64, za_65, za_70, f44]
                rw [cal_t hwr]
                simp (disch := omega) only [zi_t, zi_f, bnd_t, zg_in, zx, nI_ltI, nI_leI, nI_eq, nI_add, pk_mul, pk_sub, mup_s, mup_c, mup_j, mrw_c, if_pos, if_neg, zm_1, zm_2, zm_3, zm_4, zm_5, zm_6, zm_7, zm_8, zm_9, zf_0, zf_1, zf_2, zf_3, zf_4, zf_5, zf_6, zf_7, zf_8, zf_9, zf_10, zf_14, zf_15, zf_16, zf_18, zf_19, zf_20, zf_24, zf_30, zf_31, zf_32, zf_33, zf_99, zf_100, zf_160, zf_200, zf_287, zf_288, zf_300, zf_1000, zf_1023, zf_1024, zf_1600, zf_3840, zf_25600, zf_36000, zf_1000000, zf_1000000000, zf_2000000000, zf_11560, za_1, za_2, za_4, za_5, za_6, za_7, za_8, za_9, za_10, za_11, za_12, za_14, za_15, za_22, za_23, za_25, za_26, za_27, za_28, za_29, za_30, za_31, za_32, za_33, za_34, za_35, za_41, za_42, za_43, za_44, za_45, za_46, za_47, za_48, za_49, za_61, za_62, za_63, za_64, za_65, za_70, bI_t, f45, ekk]
          unfold S_X4_step_38
          cases hb1 : (tb (m2 47 (9 * lv + p)) (fr q.1) && wyB δ ch (32 * p + fr q.1) (cSt way q) (32 * p + too q.1)) with
          | false =>
            rw [hb1] at hws
            obtain ⟨s', p1, p2⟩ := h98 m2 j1 (fun _ _ h => h) j2 (fun hb hw => by rw [ek2, hb, hw] at hb1; cases hb1)
            refine ⟨s', p1, ?_⟩
            rw [← p2]
            simp (disch := omega) only [zi_t, zi_f, bnd_t, zg_in, zx, nI_ltI, nI_leI, nI_eq, nI_add, pk_mul, pk_sub, mup_s, mup_c, mup_j, mrw_c, if_pos, if_neg, zm_1, zm_2, zm_3, zm_4, zm_5, zm_6, zm_7, zm_8, zm_9, zf_0, zf_1, zf_2, zf_3, zf_4, zf_5, zf_6, zf_7, zf_8, zf_9, zf_10, zf_14, zf_15, zf_16, zf_18, zf_19, zf_20, zf_24, zf_30, zf_31, zf_32, zf_33, zf_99, zf_100, zf_160, zf_200, zf_287, zf_288, zf_300, zf_1000, zf_1023, zf_1024, zf_1600, zf_3840, zf_25600, zf_36000, zf_1000000, zf_1000000000, zf_2000000000, zf_11560, za_1, za_2, za_4, za_5, za_6, za_7, za_8, za_9, za_10, za_11, za_12, za_14, za_15, za_22, za_23, za_25, za_26, za_27, za_28, za_29, za_30, za_31, za_32, za_33, za_34, za_35, za_41, za_42, za_43, za_44, za_45, za_46, za_47, za_48, za_49, za_61, za_62, za_63, za_64, za_65, za_70, e402, gd_t hk, eL, e44]
            rw [cal_t hws]
            simp (disch := omega) only [zi_t, zi_f, bnd_t, zg_in, zx, nI_ltI, nI_leI, nI_eq, nI_add, pk_mul, pk_sub, mup_s, mup_c, mup_j, mrw_c, if_pos, if_neg, zm_1, zm_2, zm_3, zm_4, zm_5, zm_6, zm_7, zm_8, zm_9, zf_0, zf_1, zf_2, zf_3, zf_4, zf_5, zf_6, zf_7, zf_8, zf_9, zf_10, zf_14, zf_15, zf_16, zf_18, zf_19, zf_20, zf_24, zf_30, zf_31, zf_32, zf_33, zf_99, zf_100, zf_160, zf_200, zf_287, zf_288, zf_300, zf_1000, zf_1023, zf_1024, zf_1600, zf_3840, zf_25600, zf_36000, zf_1000000, zf_1000000000, zf_2000000000, zf_11560, za_1, za_2, za_4, za_5, za_6, za_7, za_8, za_9, za_10, za_11, za_12, za_14, za_15, za_22, za_23, za_25, za_26, za_27, za_28, za_29, za_30, za_31, za_32, za_33, za_34, za_35, za_41, za_42, za_43, za_44, za_45, za_46, za_47, za_48, za_49, za_61, za_62, za_63, za_64, za_65, za_70, bI_f]
          | true =>
            rw [hb1] at hws
            rw [Bool.and_eq_true] at hb1
            have ekk : 9 * lv + p + 9 = 9 * (lv + 1) + p := by omega
            have hg2 := gr_up (m := m2) (k := 9 * (lv + 1) + p) (t := too q.1) (by omega)
            obtain ⟨s', p1, p2⟩ := h98 (mup m2 47 (9 * (lv + 1) + p) (m2 47 (9 * (lv + 1) + p) ||| q_shl (nI 1) (nI (too q.1)))) ⟨fun c hc => by rw [mup_r hc, j1.1 c hc], fun j hj => by rw [mup_j (by omega), j1.2 j hj]⟩ hg2 (fun p' s hp2 hs2 hb => by
              by_cases e : p' = p
              · subst e
                rw [mup_s, tb_set (by omega) hs2, Bool.or_eq_true] at hb
                rcases hb with hb | hb
                · exact j2 _ s hp2 hs2 hb
                · rw [of_decide_eq_true hb]
                  obtain ⟨c, y1, y2⟩ := wyB_iff.mp hb1.2
                  exact ⟨_, hCa hb1.1, c, ⟨p', hp', Or.inl ⟨q, hqL, y1, rfl, rfl, c8.symm⟩⟩, y2⟩
              · rw [mup_j (by omega)] at hb
                exact j2 p' s hp2 hs2 hb) (fun _ _ => by rw [mup_s, tb_set (by omega) (by omega), decide_eq_true rfl, Bool.or_true])
            refine ⟨s', p1, ?_⟩
            rw [← p2]
            simp (disch := omega) only [zi_t, zi_f, bnd_t, zg_in, zx, nI_ltI, nI_leI, nI_eq, nI_add, pk_mul, pk_sub, mup_s, mup_c, mup_j, mrw_c, if_pos, if_neg, zm_1, zm_2, zm_3, zm_4, zm_5, zm_6, zm_7, zm_8, zm_9, zf_0, zf_1, zf_2, zf_3, zf_4, zf_5, zf_6, zf_7, zf_8, zf_9, zf_10, zf_14, zf_15, zf_16, zf_18, zf_19, zf_20, zf_24, zf_30, zf_31, zf_32, zf_33, zf_99, zf_100, zf_160, zf_200, zf_287, zf_288, zf_300, zf_1000, zf_1023, zf_1024, zf_1600, zf_3840, zf_25600, zf_36000, zf_1000000, zf_1000000000, zf_2000000000, zf_11560, za_1, za_2, za_4, za_5, za_6, za_7, za_8, za_9, za_10, za_11, za_12, za_14, za_15, za_22, za_23, za_25, za_26, za_27, za_28, za_29, za_30, za_31, za_32, za_33, za_34, za_35, za_41, za_42, za_43, za_44, za_45, za_46, za_47, za_48, za_49, za_61, za_62, za_63, za_64, za_65, za_70, e402, gd_t hk, eL, e44]
            rw [cal_t hws]
            simp (disch := omega) only [zi_t, zi_f, bnd_t, zg_in, zx, nI_ltI, nI_leI, nI_eq, nI_add, pk_mul, pk_sub, mup_s, mup_c, mup_j, mrw_c, if_pos, if_neg, zm_1, zm_2, zm_3, zm_4, zm_5, zm_6, zm_7, zm_8, zm_9, zf_0, zf_1, zf_2, zf_3, zf_4, zf_5, zf_6, zf_7, zf_8, zf_9, zf_10, zf_14, zf_15, zf_16, zf_18, zf_19, zf_20, zf_24, zf_30, zf_31, zf_32, zf_33, zf_99, zf_100, zf_160, zf_200, zf_287, zf_288, zf_300, zf_1000, zf_1023, zf_1024, zf_1600, zf_3840, zf_25600, zf_36000, zf_1000000, zf_1000000000, zf_2000000000, zf_11560, za_1, za_2, za_4, za_5, za_6, za_7, za_8, za_9, za_10, za_11, za_12, za_14, za_15, za_22, za_23, za_25, za_26, za_27, za_28, za_29, za_30, za_31, za_32, za_33, za_34, za_35, za_41, za_42, za_43, za_44, za_45, za_46, za_47, za_48, za_49, za_61, za_62, za_63, za_64, za_65, za_70, bI_t, e45, ekk]
        · refine ⟨m2, hstep m2 j1 (fun _ _ h => h) j2 (fun h => absurd h c8), ?_⟩
          have c9 : ¬ nI (syW way q) = nI x := fun h => c8 ((nI_eq (by omega) (by omega)).mp h)
          unfold S_X4_step_38 B_X4_step_98 B_X4_step_145
          simp (disch := omega) only [zi_t, zi_f, bnd_t, zg_in, zx, nI_ltI, nI_leI, nI_eq, nI_add, pk_mul, pk_sub, mup_s, mup_c, mup_j, mrw_c, if_pos, if_neg, zm_1, zm_2, zm_3, zm_4, zm_5, zm_6, zm_7, zm_8, zm_9, zf_0, zf_1, zf_2, zf_3, zf_4, zf_5, zf_6, zf_7, zf_8, zf_9, zf_10, zf_14, zf_15, zf_16, zf_18, zf_19, zf_20, zf_24, zf_30, zf_31, zf_32, zf_33, zf_99, zf_100, zf_160, zf_200, zf_287, zf_288, zf_300, zf_1000, zf_1023, zf_1024, zf_1600, zf_3840, zf_25600, zf_36000, zf_1000000, zf_1000000000, zf_2000000000, zf_11560, za_1, za_2, za_4, za_5, za_6, za_7, za_8, za_9, za_10, za_11, za_12, za_14, za_15, za_22, za_23, za_25, za_26, za_27, za_28, za_29, za_30, za_31, za_32, za_33, za_34, za_35, za_41, za_42, za_43, za_44, za_45, za_46, za_47, za_48, za_49, za_61, za_62, za_63, za_64, za_65, za_70, e402, gd_t hk, eL, e44, c9]
      · rintro k m2 ⟨j1, j2, j3, j4⟩
        have h2 := h.off ha j1.off
        have e402 := h2.1.1.2.1
        have eL := h2.1.1.1.2.2.1
        refine ⟨m2, ⟨j1, j2, fun q hq hq' => ?_⟩, ?_⟩
        · by_cases e : q = p
          · rw [e]; exact j4
          · exact j3 q (by omega) hq'
        · show S_X4_step_38 N (L_X4_step_9 N g) (L_X4_step_38 N (L_X4_step_9 N g) k) m2 (nI lv) (nI x) (nI p) (nI (9 * lv + p)) (nI L.length) = _
          unfold S_X4_step_38 B_X4_step_151
          simp (disch := omega) only [zi_t, zi_f, bnd_t, zg_in, zx, nI_ltI, nI_leI, nI_eq, nI_add, pk_mul, pk_sub, mup_s, mup_c, mup_j, mrw_c, if_pos, if_neg, zm_1, zm_2, zm_3, zm_4, zm_5, zm_6, zm_7, zm_8, zm_9, zf_0, zf_1, zf_2, zf_3, zf_4, zf_5, zf_6, zf_7, zf_8, zf_9, zf_10, zf_14, zf_15, zf_16, zf_18, zf_19, zf_20, zf_24, zf_30, zf_31, zf_32, zf_33, zf_99, zf_100, zf_160, zf_200, zf_287, zf_288, zf_300, zf_1000, zf_1023, zf_1024, zf_1600, zf_3840, zf_25600, zf_36000, zf_1000000, zf_1000000000, zf_2000000000, zf_11560, za_1, za_2, za_4, za_5, za_6, za_7, za_8, za_9, za_10, za_11, za_12, za_14, za_15, za_22, za_23, za_25, za_26, za_27, za_28, za_29, za_30, za_31, za_32, za_33, za_34, za_35, za_41, za_42, za_43, za_44, za_45, za_46, za_47, za_48, za_49, za_61, za_62, za_63, za_64, za_65, za_70, e402, gd_t hk, eL]
  · rintro g m1 ⟨i1, i2, i3⟩
    have h1 := h.off ha i1.off
    have e401 := h1.1.1.2.2.1
    refine ⟨m1, ?_, i1, fun p s hp hs => ⟨fun hb => i2 p s hp hs hb, fun hc => ?_⟩⟩
    · show S_X4_step_9 N (L_X4_step_9 N g) m1 (nI lv) (nI x) (nI (w.length + 1)) = _
      unfold S_X4_step_9
      simp (disch := omega) only [zi_t, zi_f, bnd_t, zg_in, zx, nI_ltI, nI_leI, nI_eq, nI_add, pk_mul, pk_sub, mup_s, mup_c, mup_j, mrw_c, if_pos, if_neg, zm_1, zm_2, zm_3, zm_4, zm_5, zm_6, zm_7, zm_8, zm_9, zf_0, zf_1, zf_2, zf_3, zf_4, zf_5, zf_6, zf_7, zf_8, zf_9, zf_10, zf_14, zf_15, zf_16, zf_18, zf_19, zf_20, zf_24, zf_30, zf_31, zf_32, zf_33, zf_99, zf_100, zf_160, zf_200, zf_287, zf_288, zf_300, zf_1000, zf_1023, zf_1024, zf_1600, zf_3840, zf_25600, zf_36000, zf_1000000, zf_1000000000, zf_2000000000, zf_11560, za_1, za_2, za_4, za_5, za_6, za_7, za_8, za_9, za_10, za_11, za_12, za_14, za_15, za_22, za_23, za_25, za_26, za_27, za_28, za_29, za_30, za_31, za_32, za_33, za_34, za_35, za_41, za_42, za_43, za_44, za_45, za_46, za_47, za_48, za_49, za_61, za_62, za_63, za_64, za_65, za_70, e401]
    · obtain ⟨a', ha', c, ⟨p', hp', hE⟩, hwa⟩ := hc
      rcases hE with ⟨q, hq, x1, x2, x3, x4⟩ | ⟨q, hq, x1, x2, x3, x4⟩ | ⟨t, ht, x1, x2, x3, x4⟩
      · have hqm := hok q hq
        have q1 := hqm.2.1
        have q2 := hqm.2.2.1
        obtain ⟨j, hj⟩ := List.getElem?_of_mem hq
        have ep : p = p' := by omega
        have es : s = too q.1 := by omega
        rw [ep, es]
        refine (i3 p' (by omega) hp' j q (List.getElem?_eq_some_iff.mp hj).1 hj x4.symm ((hR p' (fr q.1) hp' (by omega)).mpr (by rw [← x2]; exact ha'))).1 (wyB_iff.mpr ⟨c, x1, by rw [← x2, ← x3]; exact hwa⟩)
      · have hqm := hok q hq
        have q1 := hqm.2.1
        have q2 := hqm.2.2.1
        obtain ⟨j, hj⟩ := List.getElem?_of_mem hq
        have ep : p = p' + 1 := by omega
        have es : s = too q.1 := by omega
        rw [ep, es]
        refine (i3 p' (by omega) hp' j q (List.getElem?_eq_some_iff.mp hj).1 hj x4.symm ((hR p' (fr q.1) hp' (by omega)).mpr (by rw [← x2]; exact ha'))).2 (wyB_iff.mpr ⟨c, x1, by rw [← x2, ← x3]; exact hwa⟩)
      · omega
