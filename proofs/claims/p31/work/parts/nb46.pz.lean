def CloK (R : Nat → Nat → Prop) (K : Nat → Prop) (b : Nat) : Prop := ∃ a, K a ∧ Rc R a b
def RW' (m : Mem) (w : List Nat) (lv : Nat) (K : Nat → Prop) : Prop := ∀ p s, p ≤ w.length → s < 32 → (tb (m 47 (9 * lv + p)) s = true ↔ K (32 * p + s))
def KN (n : Nat) (w : List Nat) (K : Nat → Prop) : Prop := ∀ a, K a → a % 32 < n ∧ a / 32 ≤ w.length
def OL (lv : Nat) (m m' : Mem) : Prop := (∀ c, c ≠ 47 → m' c = m c) ∧ ∀ j, j < 9 * lv → m' 47 j = m 47 j
theorem OL.rf {lv : Nat} {m : Mem} : OL lv m m := ⟨fun _ _ => rfl, fun _ _ => rfl⟩
theorem OL.tr {lv : Nat} {m m' m'' : Mem} (h : OL lv m m') (h2 : OL lv m' m'') : OL lv m m'' := ⟨fun c hc => by rw [h2.1 c hc, h.1 c hc], fun j hj => by rw [h2.2 j hj, h.2 j hj]⟩
theorem O47.ol {k lv : Nat} {m m' : Mem} (h : O47 k m m') (hk : 9 * lv ≤ k) : OL lv m m' := ⟨h.1, fun j hj => h.2 j (by omega)⟩
theorem OL.off {lv : Nat} {m m' : Mem} (h : OL lv m m') : Off 47 50 m m' := fun c hc => h.1 c (by omega)
theorem sy_kn {way n x a b : Nat} {L : ArL} {w : List Nat} {δ : Nat → Nat} {ch : Bool} (hok : DOK n L) (hn : n ≤ 32) (h : Sy way L w δ ch x a b) (ha : a % 32 < n) : b % 32 < n ∧ b / 32 ≤ w.length := by
  obtain ⟨c, ⟨p, hp, hE⟩, _⟩ := h
  rcases hE with ⟨q, hq, h1, rfl, rfl, _⟩ | ⟨q, hq, h1, rfl, rfl, _⟩ | ⟨s, hs, h1, rfl, rfl, _⟩
  · have := (hok q hq).2.2.1
    omega
  · have := (hok q hq).2.2.1
    have := cRd_lt h1
    omega
  · have := cSk_lt h1
    omega
theorem clo_kn {way n : Nat} {L : ArL} {w : List Nat} {δ : Nat → Nat} {ch : Bool} {K : Nat → Prop} (hok : DOK n L) (hn : n ≤ 32) (hK : KN n w K) : KN n w (CloK (Sy way L w δ ch 8) K) := by
  rintro b ⟨a, ha, hr⟩
  exact hr.cl (S := fun x => x % 32 < n ∧ x / 32 ≤ w.length) (hK a ha) (fun x y hx hs => sy_kn hok hn hs hx.1)
theorem row_ne {x : Int32} (h : x ≠ nI 0) : ∃ s, s < 32 ∧ tb x s = true := by
  apply Classical.byContradiction
  intro hn
  refine h (tb_ext (fun s hs => ?_))
  rw [tb_0]
  cases ht : tb x s with
  | false => rfl
  | true => exact absurd ⟨s, hs, ht⟩ hn
theorem cl_spread {N a way n lv : Nat} {f : Nat → Bool} {L : ArL} {w : List Nat} {δ : Nat → Nat} {ch : Bool} {m : Mem} {K : Nat → Prop} (hN : 40000 < N) (ha : 200 ≤ a) (ha2 : a < 300) (hk : (knd a == 3) = true) (h : SF m a way n f L w δ ch) (hok : DOK n L) (hl : L.length ≤ 160) (hn : n ≤ 32) (hway : way < 3) (hwl : w.length ≤ 8) (hwx : ∀ x, x ∈ w → x < 8) (hlv : lv < 288) (hK : KN n w K) (hR : RW' m w lv K) :
    ∃ m', L_X4_enter_2 N N m (nI lv) (nI 0) = S_X4_enter_2 N (fun _ _ _ => none) m' (nI lv) (nI (w.length + 1)) ∧ OL lv m m' ∧ RW' m' w lv (CloK (Sy way L w δ ch 8) K) := by
  have hCK := clo_kn (way := way) (δ := δ) (ch := ch) hok hn hK
  refine loopF (fun g (m : Mem) p => L_X4_enter_2 N g m (nI lv) (nI p)) (w.length + 1) (fun p m' => OL lv m m' ∧ (∀ q s, q ≤ w.length → s < 32 → tb (m' 47 (9 * lv + q)) s = true → CloK (Sy way L w δ ch 8) K (32 * q + s)) ∧ (∀ q s, q ≤ w.length → s < 32 → K (32 * q + s) → tb (m' 47 (9 * lv + q)) s = true) ∧ ∀ q s, q < p → q ≤ w.length → s < 32 → tb (m' 47 (9 * lv + q)) s = true → ∀ q' s', q' ≤ w.length → s' < 32 → Sy way L w δ ch 8 (32 * q + s) (32 * q' + s') → tb (m' 47 (9 * lv + q')) s' = true) (fun o => ∃ m', o = S_X4_enter_2 N (fun _ _ _ => none) m' (nI lv) (nI (w.length + 1)) ∧ OL lv m m' ∧ RW' m' w lv (CloK (Sy way L w δ ch 8) K)) ?_ ?_ N 0 m (Nat.zero_le _) ⟨OL.rf, fun q s hq hs hb => ⟨_, (hR q s hq hs).mp hb, Rc.rf⟩, fun q s hq hs hb => (hR q s hq hs).mpr hb, fun q s hq => absurd hq (Nat.not_lt_zero _)⟩ (by omega)
  · rintro g p m1 hp ⟨i1, i2, i3, i4⟩
    have h1 := h.off ha i1.off
    have e401 := h1.1.1.2.2.1
    have hp' : p ≤ w.length := by omega
    left
    show ∃ s', _ ∧ S_X4_enter_2 N (L_X4_enter_2 N g) m1 (nI lv) (nI p) = _
    unfold S_X4_enter_2 B_X4_enter_46
    have eix : lv * 9 + p = 9 * lv + p := by omega
    by_cases c0 : m1 47 (9 * lv + p) = nI 0
    · refine ⟨m1, ⟨i1, i2, i3, fun q s hq hq' hs hb => ?_⟩, ?_⟩
      · by_cases e : q = p
        · rw [e, c0, tb_0] at hb; cases hb
        · exact i4 q s (by omega) hq' hs hb
      · simp (disch := omega) only [zi_t, zi_f, bnd_t, zg_in, zx, nI_ltI, nI_leI, nI_eq, nI_add, pk_mul, pk_sub, mup_s, mup_c, mup_j, mrw_c, if_pos, if_neg, zm_1, zm_2, zm_3, zm_4, zm_5, zm_6, zm_7, zm_8, zm_9, zf_0, zf_1, zf_2, zf_3, zf_4, zf_5, zf_6, zf_7, zf_8, zf_9, zf_10, zf_14, zf_15, zf_16, zf_18, zf_19, zf_20, zf_24, zf_30, zf_31, zf_32, zf_33, zf_99, zf_100, zf_160, zf_200, zf_287, zf_288, zf_300, zf_1000, zf_1023, zf_1024, zf_1600, zf_3840, zf_25600, zf_36000, zf_1000000, zf_1000000000, zf_2000000000, zf_11560, za_1, za_2, za_4, za_5, za_6, za_7, za_8, za_9, za_10, za_11, za_12, za_14, za_15, za_22, za_23, za_25, za_26, za_27, za_28, za_29, za_30, za_31, za_32, za_33, za_34, za_35, za_41, za_42, za_43, za_44, za_45, za_46, za_47, za_48, za_49, za_61, za_62, za_63, za_64, za_65, za_70, e401, eix, c0]
    · obtain ⟨s0, hs0, hb0⟩ := row_ne c0
      have hs0n := (hCK _ (i2 p s0 hp' hs0 hb0)).1
      obtain ⟨m2, g1, g2, g3, g4, g5⟩ := cl_spStay (N := N) hN ha ha2 hk h1 hok hl hn hway hwl hp' hlv ⟨s0, by omega, hb0⟩
      have h2 := h1.off ha g2.off
      obtain ⟨m3, k1, k2, k3, k4, k5, k6⟩ := cl_spRead (N := N) hN ha ha2 hk h2 hok hl hn hway hwl hwx hp' hlv
      have hclo : ∀ a b, CloK (Sy way L w δ ch 8) K a → Sy way L w δ ch 8 a b → CloK (Sy way L w δ ch 8) K b := fun a b ⟨x, hx, hr⟩ hs => ⟨x, hx, hr.st hs⟩
      have s2 : ∀ s, s < 32 → tb (m2 47 (9 * lv + p)) s = true → CloK (Sy way L w δ ch 8) K (32 * p + s) := g4 _ (fun s hs hb => i2 p s hp' hs hb) hclo
      have e3p : m3 47 (9 * lv + p) = m2 47 (9 * lv + p) := k2.2 _ (by omega)
      have grow : ∀ q s, tb (m1 47 (9 * lv + q)) s = true → tb (m3 47 (9 * lv + q)) s = true := by
        intro q s hb
        have x1 : tb (m2 47 (9 * lv + q)) s = true := by
          by_cases e : q = p
          · subst e; exact g3 s hb
          · rw [g2.2 _ (by omega)]; exact hb
        by_cases e : q = p + 1
        · subst e; exact k3 s x1
        · rw [k2.2 _ (by omega)]; exact x1
      refine ⟨m3, ⟨(i1.tr (g2.ol (by omega))).tr (k2.ol (by omega)), fun q s hq hs hb => ?_, fun q s hq hs hb => grow q s (i3 q s hq hs hb), fun q s hq hq' hs hb q' s' hq2 hs2 hsy => ?_⟩, ?_⟩
      · by_cases e : q = p + 1
        · subst e
          exact k4 (CloK (Sy way L w δ ch 8) K) (fun s hs hb => i2 (p + 1) s hq hs (by rw [← g2.2 (9 * lv + (p + 1)) (by omega)]; exact hb)) s2 hclo s hs hb
        · rw [k2.2 _ (by omega)] at hb
          by_cases e2 : q = p
          · subst e2; exact s2 s hs hb
          · rw [g2.2 _ (by omega)] at hb; exact i2 q s hq hs hb
      · by_cases e : q = p
        · subst e
          rw [e3p] at hb
          have hsn := (hCK _ (s2 s hs hb)).1
          obtain ⟨c, ⟨p', hp2, hE⟩, hwa⟩ := hsy
          rcases hE with ⟨r, hr, x1, x2, x3, x4⟩ | ⟨r, hr, x1, x2, x3, x4⟩ | ⟨t, ht, x1, x2, x3, x4⟩
          · have hrm := hok r hr
            have r1 := hrm.2.1
            have r2 := hrm.2.2.1
            obtain ⟨j, hj⟩ := List.getElem?_of_mem hr
            have ep : p' = q := by omega
            have es : s = fr r.1 := by omega
            have ep2 : q' = q := by omega
            have es2 : s' = too r.1 := by omega
            subst ep
            rw [ep2, es2, e3p]
            refine g5 j r (List.getElem?_eq_some_iff.mp hj).1 hj x4.symm (by rw [← es]; exact hb) (wyB_iff.mpr ⟨c, x1, ?_⟩)
            rw [← x2, ← x3]; exact hwa
          · have hrm := hok r hr
            have r1 := hrm.2.1
            have r2 := hrm.2.2.1
            obtain ⟨j, hj⟩ := List.getElem?_of_mem hr
            have ep : p' = q := by omega
            have es : s = fr r.1 := by omega
            have ep2 : q' = q + 1 := by omega
            have es2 : s' = too r.1 := by omega
            subst ep
            rw [ep2, es2]
            refine k5 j r (List.getElem?_eq_some_iff.mp hj).1 hj x4.symm (by rw [← es]; exact hb) (wyB_iff.mpr ⟨c, x1, ?_⟩)
            rw [← x2, ← x3]; exact hwa
          · have ep : p' = q := by omega
            have es : s = t := by omega
            have ep2 : q' = q + 1 := by omega
            have es2 : s' = t := by omega
            subst ep
            subst es
            rw [ep2, es2]
            refine k6 s (by omega) hb (wyB_iff.mpr ⟨c, x1, ?_⟩)
            rw [← x3]; exact hwa
        · have hb1 : tb (m1 47 (9 * lv + q)) s = true := by
            rw [k2.2 _ (by omega), g2.2 _ (by omega)] at hb
            exact hb
          exact grow q' s' (i4 q s (by omega) hq' hs hb1 q' s' hq2 hs2 hsy)
      · simp (disch := omega) only [zi_t, zi_f, bnd_t, zg_in, zx, nI_ltI, nI_leI, nI_eq, nI_add, pk_mul, pk_sub, mup_s, mup_c, mup_j, mrw_c, if_pos, if_neg, zm_1, zm_2, zm_3, zm_4, zm_5, zm_6, zm_7, zm_8, zm_9, zf_0, zf_1, zf_2, zf_3, zf_4, zf_5, zf_6, zf_7, zf_8, zf_9, zf_10, zf_14, zf_15, zf_16, zf_18, zf_19, zf_20, zf_24, zf_30, zf_31, zf_32, zf_33, zf_99, zf_100, zf_160, zf_200, zf_287, zf_288, zf_300, zf_1000, zf_1023, zf_1024, zf_1600, zf_3840, zf_25600, zf_36000, zf_1000000, zf_1000000000, zf_2000000000, zf_11560, za_1, za_2, za_4, za_5, za_6, za_7, za_8, za_9, za_10, za_11, za_12, za_14, za_15, za_22, za_23, za_25, za_26, za_27, za_28, za_29, za_30, za_31, za_32, za_33, za_34, za_35, za_41, za_42, za_43, za_44, za_45, za_46, za_47, za_48, za_49, za_61, za_62, za_63, za_64, za_65, za_70, e401, eix, c0]
        rw [calv_t g1, calv_t k1]
  · rintro g m1 ⟨i1, i2, i3, i4⟩
    have h1 := h.off ha i1.off
    have e401 := h1.1.1.2.2.1
    refine ⟨m1, ?_, i1, fun p s hp hs => ⟨fun hb => i2 p s hp hs hb, fun hc => ?_⟩⟩
    · show S_X4_enter_2 N (L_X4_enter_2 N g) m1 (nI lv) (nI (w.length + 1)) = _
      unfold S_X4_enter_2
      simp (disch := omega) only [zi_t, zi_f, bnd_t, zg_in, zx, nI_ltI, nI_leI, nI_eq, nI_add, pk_mul, pk_sub, mup_s, mup_c, mup_j, mrw_c, if_pos, if_neg, zm_1, zm_2, zm_3, zm_4, zm_5, zm_6, zm_7, zm_8, zm_9, zf_0, zf_1, zf_2, zf_3, zf_4, zf_5, zf_6, zf_7, zf_8, zf_9, zf_10, zf_14, zf_15, zf_16, zf_18, zf_19, zf_20, zf_24, zf_30, zf_31, zf_32, zf_33, zf_99, zf_100, zf_160, zf_200, zf_287, zf_288, zf_300, zf_1000, zf_1023, zf_1024, zf_1600, zf_3840, zf_25600, zf_36000, zf_1000000, zf_1000000000, zf_2000000000, zf_11560, za_1, za_2, za_4, za_5, za_6, za_7, za_8, za_9, za_10, za_11, za_12, za_14, za_15, za_22, za_23, za_25, za_26, za_27, za_28, za_29, za_30, za_31, za_32, za_33, za_34, za_35, za_41, za_42, za_43, za_44, za_45, za_46, za_47, za_48, za_49, za_61, za_62, za_63, za_64, za_65, za_70, e401]
    · obtain ⟨a0, ha0, hr⟩ := hc
      have hk0 := hK a0 ha0
      have key := hr.cl (S := fun x => x % 32 < n ∧ x / 32 ≤ w.length ∧ ∀ q s, q ≤ w.length → s < 32 → x = 32 * q + s → tb (m1 47 (9 * lv + q)) s = true) ⟨hk0.1, hk0.2, fun q s hq hs e => i3 q s hq hs (by rw [← e]; exact ha0)⟩ (fun x y hx hs => by
        obtain ⟨x1, x2, x3⟩ := hx
        obtain ⟨y1, y2⟩ := sy_kn hok hn hs x1
        refine ⟨y1, y2, fun q s hq hs2 e => ?_⟩
        have hb := x3 (x / 32) (x % 32) x2 (by omega) (by omega)
        refine i4 (x / 32) (x % 32) (by omega) x2 (by omega) hb q s hq hs2 ?_
        rw [← e, show 32 * (x / 32) + x % 32 = x by omega]
        exact hs)
      exact key.2.2 p s hp hs rfl
