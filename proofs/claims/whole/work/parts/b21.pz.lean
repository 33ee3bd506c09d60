/-! the model draws -/
def nwS (S : Nat → Nat) (k n : Nat) : Bool := (List.range n).all (fun j => decide (S j ≠ S k))
theorem nwS_s {S : Nat → Nat} {k n : Nat} : nwS S k (n + 1) = (nwS S k n && decide (S n ≠ S k)) := by
  unfold nwS
  rw [List.range_succ, List.all_append]
  simp
theorem nwS_iff {S : Nat → Nat} {k n : Nat} : nwS S k n = true ↔ ∀ j, j < n → S j ≠ S k := by
  unfold nwS
  rw [List.all_eq_true]
  constructor
  · intro h j hj
    exact of_decide_eq_true (h j (List.mem_range.mpr hj))
  · intro h j hj
    exact decide_eq_true (h j (List.mem_range.mp hj))
abbrev mnR (d : Nat → Nat → Option Nat) (S : Nat → Nat) (k n : Nat) : ArL := drw d (fun j => some (S j)) k (S k) n
abbrev mnD (d : Nat → Nat → Option Nat) (S : Nat → Nat) (n : Nat) : ArL := fmN (fun k => if nwS S k k = true then mnR d S k 8 else []) n
def mnE (S : Nat → Nat) (wa : Nat → Bool) : Nat → Nat → Bool
  | 0 => fun _ => false
  | n + 1 => fun x => if x = S n then wa n else mnE S wa n x
theorem mnE_at {S : Nat → Nat} {wa : Nat → Bool} : ∀ {n i : Nat}, (∀ i j, i < n → j < n → S i = S j → wa i = wa j) → i < n → mnE S wa n (S i) = wa i
  | 0, i, _, hi => absurd hi (Nat.not_lt_zero _)
  | n + 1, i, h, hi => by
    show (if S i = S n then wa n else mnE S wa n (S i)) = wa i
    by_cases c : S i = S n
    · rw [if_pos c]; exact (h i n hi (by omega) c).symm
    · rw [if_neg c]
      exact mnE_at (fun i j h1 h2 => h i j (by omega) (by omega)) (by
        rcases Nat.lt_or_ge i n with h | h
        · exact h
        · exact absurd (by rw [show i = n by omega]) c)
theorem mnD_len (d : Nat → Nat → Option Nat) (S : Nat → Nat) (n : Nat) : (mnD d S n).length ≤ 8 * n := by
  refine fmN_len (fun k => ?_) n
  split
  · exact drw_len _ _ _ _ _
  · exact Nat.zero_le _
theorem mo_mkDraft {N i j what : Nat} {eA eB' : Int32} {m : Mem} {s : XS} {d : Nat → Nat → Option Nat} {S : Nat → Nat} {wa : Nat → Bool} (hN : 40000 < N) (h : MP m s d) (hX : MX m s 0) (hl : s.1.length ≤ 200) (h1 : 1 ≤ s.1.length) (hdc : ∀ k x y, k < s.1.length → x < 8 → d k x = some y → y < s.1.length) (hS : SRow m s.1.length S) (hwa : wa = waf (wnW what) eA eB' s.1) (hA : m 73 i = eA) (hi : i < 24) (hB : what ≠ 0 → m 73 j = eB') (hj : j < 24) (hB0 : what = 0 → eB' = nI 0) (hwh : what < 4) :
    ∃ mw, MW mw (mnE S wa s.1.length) (mnD d S s.1.length) ∧ Fx 80 83 [14] m mw ∧ (calv (F_X8_begins N m) fun m => L_X8_makesLeast_94 N N m (nI i) (nI j) (nI what) (nI 0)) = tW N mw (nI (S 0)) := by
  obtain ⟨m0, c1, c2, c3⟩ := mw_begins (N := N) (m := m) (by omega)
  rw [calv_t c1]
  refine loopF (fun f (m : Mem) k => L_X8_makesLeast_94 N f m (nI i) (nI j) (nI what) (nI k)) s.1.length (fun k m' => MW m' (mnE S wa k) (mnD d S k) ∧ Fx 80 83 [14] m m') (fun o => ∃ mw, MW mw (mnE S wa s.1.length) (mnD d S s.1.length) ∧ Fx 80 83 [14] m mw ∧ o = tW N mw (nI (S 0))) ?_ ?_ N 0 m0 (Nat.zero_le _) ⟨c2, c3.wd (by omega) (by omega) (by simp)⟩ (by omega)
  · rintro f k m1 hk ⟨i1, i2⟩
    left
    have h35 : m1 70 35 = nI s.1.length := by rw [i2.2 35 (by simp)]; exact h.1
    have e97 : m1 97 k = nI (S k) := by rw [i2.1 97 (by omega) (by omega)]; exact (hS k hk).1
    have b97 := (hS k hk).2
    have hX1 : MX m1 s 0 := ⟨by rw [i2.2 35 (by simp)]; exact hX.1, fun i p hp => by rw [i2.1 92 (by omega) (by omega), i2.1 93 (by omega) (by omega)]; exact hX.2.1 i p hp, fun i hi => by rw [i2.1 95 (by omega) (by omega)]; exact hX.2.2.1 i hi, fun i h1 hi => by rw [i2.1 96 (by omega) (by omega)]; exact hX.2.2.2.1 i h1 hi, fun j hj => absurd hj (Nat.not_lt_zero _)⟩
    have hacc := mo_isAccepted (N := N) (k := k) (eA := eA) (eB' := eB') (by rw [i2.1 73 (by omega) (by omega)]; exact hA) hi (fun hw => by rw [i2.1 73 (by omega) (by omega)]; exact hB hw) hj hB0 hwh hX1 hk hl
    rw [← hwa] at hacc
    have hm2 : MW (mup m1 82 (S k) (bI (wa k))) (mnE S wa (k + 1)) (mnD d S k) := mw_end i1 (S k) (wa k)
    have f2 : Fx 80 83 [14] m (mup m1 82 (S k) (bI (wa k))) := i2.up (by omega) (by omega) (by omega)
    obtain ⟨m2, hm2e⟩ : ∃ m2, m2 = mup m1 82 (S k) (bI (wa k)) := ⟨_, rfl⟩
    rw [← hm2e] at hm2 f2
    have hDl := mnD_len d S k
    have hDs : mnD d S (k + 1) = mnD d S k ++ (if nwS S k k = true then mnR d S k 8 else []) := fmN_s
    have h175 : ∀ b : Bool, b = nwS S k k → ∃ s', (MW s' (mnE S wa (k + 1)) (mnD d S (k + 1)) ∧ Fx 80 83 [14] m s') ∧ L_X8_makesLeast_175 N (L_X8_makesLeast_94 N f) N m2 (nI i) (nI j) (nI what) (nI k) (bI b) (nI 0) = L_X8_makesLeast_94 N f s' (nI i) (nI j) (nI what) (nI (k + 1)) := by
      intro b hb
      rw [← hb] at hDs
      refine loopF (fun g (m : Mem) x => L_X8_makesLeast_175 N (L_X8_makesLeast_94 N f) g m (nI i) (nI j) (nI what) (nI k) (bI b) (nI x)) 8 (fun x m' => MW m' (mnE S wa (k + 1)) (mnD d S k ++ (if b = true then mnR d S k x else [])) ∧ Fx 80 83 [14] m m') (fun o => ∃ s', (MW s' (mnE S wa (k + 1)) (mnD d S (k + 1)) ∧ Fx 80 83 [14] m s') ∧ o = L_X8_makesLeast_94 N f s' (nI i) (nI j) (nI what) (nI (k + 1))) ?_ ?_ N 0 m2 (Nat.zero_le _) ⟨by
        have : (if b = true then mnR d S k 0 else []) = [] := by split <;> rfl
        rw [this, List.append_nil]; exact hm2, f2⟩ (by omega)
      · rintro g x m3 hx ⟨j1, j2⟩
        show (∃ s', _ ∧ S_X8_makesLeast_175 N (L_X8_makesLeast_94 N f) (L_X8_makesLeast_175 N (L_X8_makesLeast_94 N f) g) m3 (nI i) (nI j) (nI what) (nI k) (bI b) (nI x) = _) ∨ ∃ s', _ ∧ S_X8_makesLeast_175 N (L_X8_makesLeast_94 N f) (L_X8_makesLeast_175 N (L_X8_makesLeast_94 N f) g) m3 (nI i) (nI j) (nI what) (nI k) (bI b) (nI x) = _
        unfold S_X8_makesLeast_175 B_X8_makesLeast_244 B_X8_makesLeast_238
        cases b with
        | false =>
          rw [if_neg (by simp)] at j1 hDs
          right
          refine ⟨m3, ⟨by rw [hDs]; exact j1, j2⟩, ?_⟩
          simp (disch := omega) only [zi_t, zi_f, bnd_t, zg_in, zx, nI_ltI, nI_leI, nI_eq, nI_add, pk_mul, pk_sub, mup_s, mup_c, mup_j, mrw_c, if_pos, if_neg, zm_1, zm_2, zm_3, zm_4, zm_5, zm_6, zm_7, zm_8, zm_9, zf_0, zf_1, zf_2, zf_3, zf_4, zf_5, zf_6, zf_7, zf_8, zf_9, zf_10, zf_14, zf_15, zf_16, zf_18, zf_19, zf_20, zf_24, zf_30, zf_31, zf_32, zf_33, zf_99, zf_100, zf_160, zf_200, zf_287, zf_288, zf_300, zf_1000, zf_1023, zf_1024, zf_1600, zf_3840, zf_25600, zf_36000, zf_1000000, zf_1000000000, zf_2000000000, zf_11560, za_1, za_2, za_4, za_5, za_6, za_7, za_8, za_9, za_10, za_11, za_12, za_14, za_15, za_22, za_23, za_25, za_26, za_27, za_28, za_29, za_30, za_31, za_32, za_33, za_34, za_35, za_41, za_42, za_43, za_44, za_45, za_46, za_47, za_48, za_49, za_61, za_62, za_63, za_64, za_65, za_71, za_72, za_73, za_74, za_75, za_76, za_77, za_78, za_79, za_80, za_81, za_82, za_83, za_84, za_85, za_86, za_87, za_88, za_89, za_90, za_91, za_92, za_93, za_94, za_95, za_96, za_97, za_98, za_99, za_100, za_101, za_102, za_103, za_104, za_105, za_106, za_107, za_108, bI_f]
        | true =>
          rw [if_pos rfl] at j1 hDs
          left
          have e94 : m3 94 (8 * k + x) = an (d k x) := by rw [j2.1 94 (by omega) (by omega)]; exact h.2.2 k x hk hx
          cases hdx : d k x with
          | none =>
            rw [hdx] at e94
            have e94 : m3 94 (8 * k + x) = nM := e94
            refine ⟨m3, ⟨?_, j2⟩, ?_⟩
            · rw [if_pos rfl]
              show MW m3 _ (_ ++ drw d (fun j => some (S j)) k (S k) (x + 1))
              rw [drw_s]
              unfold gb
              rw [hdx]
              show MW m3 _ (_ ++ (drw d (fun j => some (S j)) k (S k) x ++ []))
              rw [List.append_nil]; exact j1
            · simp (disch := omega) only [zi_t, zi_f, bnd_t, zg_in, zx, nI_ltI, nI_leI, nI_eq, nI_add, pk_mul, pk_sub, mup_s, mup_c, mup_j, mrw_c, if_pos, if_neg, zm_1, zm_2, zm_3, zm_4, zm_5, zm_6, zm_7, zm_8, zm_9, zf_0, zf_1, zf_2, zf_3, zf_4, zf_5, zf_6, zf_7, zf_8, zf_9, zf_10, zf_14, zf_15, zf_16, zf_18, zf_19, zf_20, zf_24, zf_30, zf_31, zf_32, zf_33, zf_99, zf_100, zf_160, zf_200, zf_287, zf_288, zf_300, zf_1000, zf_1023, zf_1024, zf_1600, zf_3840, zf_25600, zf_36000, zf_1000000, zf_1000000000, zf_2000000000, zf_11560, za_1, za_2, za_4, za_5, za_6, za_7, za_8, za_9, za_10, za_11, za_12, za_14, za_15, za_22, za_23, za_25, za_26, za_27, za_28, za_29, za_30, za_31, za_32, za_33, za_34, za_35, za_41, za_42, za_43, za_44, za_45, za_46, za_47, za_48, za_49, za_61, za_62, za_63, za_64, za_65, za_71, za_72, za_73, za_74, za_75, za_76, za_77, za_78, za_79, za_80, za_81, za_82, za_83, za_84, za_85, za_86, za_87, za_88, za_89, za_90, za_91, za_92, za_93, za_94, za_95, za_96, za_97, za_98, za_99, za_100, za_101, za_102, za_103, za_104, za_105, za_106, za_107, za_108, bI_t, e94]
          | some z =>
            rw [hdx] at e94
            have e94 : m3 94 (8 * k + x) = nI z := e94
            have hz := hdc k x z hk hx hdx
            have ek : m3 97 k = nI (S k) := by rw [j2.1 97 (by omega) (by omega)]; exact (hS k hk).1
            have ez : m3 97 z = nI (S z) := by rw [j2.1 97 (by omega) (by omega)]; exact (hS z hz).1
            have bz := (hS z hz).2
            have hrl : (mnR d S k x).length ≤ x := drw_len d (fun j => some (S j)) k (S k) x
            obtain ⟨m4, g1, g2, g3⟩ := mw_adds (N := N) (s := S k) (u := x) (l := x) (t := S z) (c := 0) j1 (by rw [List.length_append]; omega) (by omega) (by omega) (by omega) (by omega)
            refine ⟨m4, ⟨?_, j2.tr (g3.wd (by omega) (by omega) (by simp))⟩, ?_⟩
            · rw [if_pos rfl]
              show MW m4 _ (_ ++ drw d (fun j => some (S j)) k (S k) (x + 1))
              rw [drw_s]
              unfold gb
              rw [hdx]
              show MW m4 _ (_ ++ (drw d (fun j => some (S j)) k (S k) x ++ [(pkA (S k) x x (S z), 0)]))
              rw [← List.append_assoc]; exact g2
            · simp (disch := omega) only [zi_t, zi_f, bnd_t, zg_in, zx, nI_ltI, nI_leI, nI_eq, nI_add, pk_mul, pk_sub, mup_s, mup_c, mup_j, mrw_c, if_pos, if_neg, zm_1, zm_2, zm_3, zm_4, zm_5, zm_6, zm_7, zm_8, zm_9, zf_0, zf_1, zf_2, zf_3, zf_4, zf_5, zf_6, zf_7, zf_8, zf_9, zf_10, zf_14, zf_15, zf_16, zf_18, zf_19, zf_20, zf_24, zf_30, zf_31, zf_32, zf_33, zf_99, zf_100, zf_160, zf_200, zf_287, zf_288, zf_300, zf_1000, zf_1023, zf_1024, zf_1600, zf_3840, zf_25600, zf_36000, zf_1000000, zf_1000000000, zf_2000000000, zf_11560, za_1, za_2, za_4, za_5, za_6, za_7, za_8, za_9, za_10, za_11, za_12, za_14, za_15, za_22, za_23, za_25, za_26, za_27, za_28, za_29, za_30, za_31, za_32, za_33, za_34, za_35, za_41, za_42, za_43, za_44, za_45, za_46, za_47, za_48, za_49, za_61, za_62, za_63, za_64, za_65, za_71, za_72, za_73, za_74, za_75, za_76, za_77, za_78, za_79, za_80, za_81, za_82, za_83, za_84, za_85, za_86, za_87, za_88, za_89, za_90, za_91, za_92, za_93, za_94, za_95, za_96, za_97, za_98, za_99, za_100, za_101, za_102, za_103, za_104, za_105, za_106, za_107, za_108, bI_t, e94, ek, ez]
              rw [calv_t g1]
      · rintro g m3 ⟨j1, j2⟩
        refine ⟨m3, ⟨by rw [hDs]; exact j1, j2⟩, ?_⟩
        show S_X8_makesLeast_175 N (L_X8_makesLeast_94 N f) (L_X8_makesLeast_175 N (L_X8_makesLeast_94 N f) g) m3 (nI i) (nI j) (nI what) (nI k) (bI b) (nI 8) = _
        unfold S_X8_makesLeast_175 B_X8_makesLeast_244
        simp (disch := omega) only [zi_t, zi_f, bnd_t, zg_in, zx, nI_ltI, nI_leI, nI_eq, nI_add, pk_mul, pk_sub, mup_s, mup_c, mup_j, mrw_c, if_pos, if_neg, zm_1, zm_2, zm_3, zm_4, zm_5, zm_6, zm_7, zm_8, zm_9, zf_0, zf_1, zf_2, zf_3, zf_4, zf_5, zf_6, zf_7, zf_8, zf_9, zf_10, zf_14, zf_15, zf_16, zf_18, zf_19, zf_20, zf_24, zf_30, zf_31, zf_32, zf_33, zf_99, zf_100, zf_160, zf_200, zf_287, zf_288, zf_300, zf_1000, zf_1023, zf_1024, zf_1600, zf_3840, zf_25600, zf_36000, zf_1000000, zf_1000000000, zf_2000000000, zf_11560, za_1, za_2, za_4, za_5, za_6, za_7, za_8, za_9, za_10, za_11, za_12, za_14, za_15, za_22, za_23, za_25, za_26, za_27, za_28, za_29, za_30, za_31, za_32, za_33, za_34, za_35, za_41, za_42, za_43, za_44, za_45, za_46, za_47, za_48, za_49, za_61, za_62, za_63, za_64, za_65, za_71, za_72, za_73, za_74, za_75, za_76, za_77, za_78, za_79, za_80, za_81, za_82, za_83, za_84, za_85, za_86, za_87, za_88, za_89, za_90, za_91, za_92, za_93, za_94, za_95, za_96, za_97, za_98, za_99, za_100, za_101, za_102, za_103, za_104, za_105, za_106, za_107, za_108]
    have h130 : L_X8_makesLeast_130 N (L_X8_makesLeast_94 N f) N m2 (nI i) (nI j) (nI what) (nI k) (bI true) (nI 0) = L_X8_makesLeast_175 N (L_X8_makesLeast_94 N f) N m2 (nI i) (nI j) (nI what) (nI k) (bI (nwS S k k)) (nI 0) := by
      refine loopF (σ := Bool) (fun g b x => L_X8_makesLeast_130 N (L_X8_makesLeast_94 N f) g m2 (nI i) (nI j) (nI what) (nI k) (bI b) (nI x)) k (fun x b => b = nwS S k x) (fun o => o = L_X8_makesLeast_175 N (L_X8_makesLeast_94 N f) N m2 (nI i) (nI j) (nI what) (nI k) (bI (nwS S k k)) (nI 0)) ?_ ?_ N 0 true (Nat.zero_le _) rfl (by omega)
      · rintro g x b hx hb
        left
        refine ⟨nwS S k (x + 1), rfl, ?_⟩
        have ek : m2 97 k = nI (S k) := by rw [f2.1 97 (by omega) (by omega)]; exact (hS k hk).1
        obtain ⟨ex, bx⟩ := hS x (by omega)
        have ex : m2 97 x = nI (S x) := by rw [f2.1 97 (by omega) (by omega)]; exact ex
        rw [nwS_s, ← hb]
        show S_X8_makesLeast_130 N (L_X8_makesLeast_94 N f) (L_X8_makesLeast_130 N (L_X8_makesLeast_94 N f) g) m2 (nI i) (nI j) (nI what) (nI k) (bI b) (nI x) = _
        unfold S_X8_makesLeast_130 B_X8_makesLeast_163 B_X8_makesLeast_164
        cases b with
        | false => simp (disch := omega) only [zi_t, zi_f, bnd_t, zg_in, zx, nI_ltI, nI_leI, nI_eq, nI_add, pk_mul, pk_sub, mup_s, mup_c, mup_j, mrw_c, if_pos, if_neg, zm_1, zm_2, zm_3, zm_4, zm_5, zm_6, zm_7, zm_8, zm_9, zf_0, zf_1, zf_2, zf_3, zf_4, zf_5, zf_6, zf_7, zf_8, zf_9, zf_10, zf_14, zf_15, zf_16, zf_18, zf_19, zf_20, zf_24, zf_30, zf_31, zf_32, zf_33, zf_99, zf_100, zf_160, zf_200, zf_287, zf_288, zf_300, zf_1000, zf_1023, zf_1024, zf_1600, zf_3840, zf_25600, zf_36000, zf_1000000, zf_1000000000, zf_2000000000, zf_11560, za_1, za_2, za_4, za_5, za_6, za_7, za_8, za_9, za_10, za_11, za_12, za_14, za_15, za_22, za_23, za_25, za_26, za_27, za_28, za_29, za_30, za_31, za_32, za_33, za_34, za_35, za_41, za_42, za_43, za_44, za_45, za_46, za_47, za_48, za_49, za_61, za_62, za_63, za_64, za_65, za_71, za_72, za_73, za_74, za_75, za_76, za_77, za_78, za_79, za_80, za_81, za_82, za_83, za_84, za_85, za_86, za_87, za_88, za_89, za_90, za_91, za_92, za_93, za_94, za_95, za_96, za_97, za_98, za_99, za_100, za_101, za_102, za_103, za_104, za_105, za_106, za_107, za_108, bI_f, Bool.false_and]
        | true =>
          by_cases c : S x = S k
          · have c' : (nI (S x) = nI (S k)) = True := by rw [c]; exact eq_self _
            rw [decide_eq_false (fun h => h c)]
            simp (disch := omega) only [zi_t, zi_f, bnd_t, zg_in, zx, nI_ltI, nI_leI, nI_eq, nI_add, pk_mul, pk_sub, mup_s, mup_c, mup_j, mrw_c, if_pos, if_neg, zm_1, zm_2, zm_3, zm_4, zm_5, zm_6, zm_7, zm_8, zm_9, zf_0, zf_1, zf_2, zf_3, zf_4, zf_5, zf_6, zf_7, zf_8, zf_9, zf_10, zf_14, zf_15, zf_16, zf_18, zf_19, zf_20, zf_24, zf_30, zf_31, zf_32, zf_33, zf_99, zf_100, zf_160, zf_200, zf_287, zf_288, zf_300, zf_1000, zf_1023, zf_1024, zf_1600, zf_3840, zf_25600, zf_36000, zf_1000000, zf_1000000000, zf_2000000000, zf_11560, za_1, za_2, za_4, za_5, za_6, za_7, za_8, za_9, za_10, za_11, za_12, za_14, za_15, za_22, za_23, za_25, za_26, za_27, za_28, za_29, za_30, za_31, za_32, za_33, za_34, za_35, za_41, za_42, za_43, za_44, za_45, za_46, za_47, za_48, za_49, za_61, za_62, za_63, za_64, za_65, za_71, za_72, za_73, za_74, za_75, za_76, za_77, za_78, za_79, za_80, za_81, za_82, za_83, za_84, za_85, za_86, za_87, za_88, za_89, za_90, za_91, za_92, za_93, za_94, za_95, za_96, za_97, za_98, za_99, za_100, za_101, za_102, za_103, za_104, za_105, za_106, za_107, za_108, bI_t, bI_f, Bool.true_and, ex, ek, c']
          · have c' : (nI (S x) = nI (S k)) = False := eq_false (fun h => c ((nI_eq (by omega) (by omega)).mp h))
            rw [decide_eq_true c]
            simp (disch := omega) only [zi_t, zi_f, bnd_t, zg_in, zx, nI_ltI, nI_leI, nI_eq, nI_add, pk_mul, pk_sub, mup_s, mup_c, mup_j, mrw_c, if_pos, if_neg, zm_1, zm_2, zm_3, zm_4, zm_5, zm_6, zm_7, zm_8, zm_9, zf_0, zf_1, zf_2, zf_3, zf_4, zf_5, zf_6, zf_7, zf_8, zf_9, zf_10, zf_14, zf_15, zf_16, zf_18, zf_19, zf_20, zf_24, zf_30, zf_31, zf_32, zf_33, zf_99, zf_100, zf_160, zf_200, zf_287, zf_288, zf_300, zf_1000, zf_1023, zf_1024, zf_1600, zf_3840, zf_25600, zf_36000, zf_1000000, zf_1000000000, zf_2000000000, zf_11560, za_1, za_2, za_4, za_5, za_6, za_7, za_8, za_9, za_10, za_11, za_12, za_14, za_15, za_22, za_23, za_25, za_26, za_27, za_28, za_29, za_30, za_31, za_32, za_33, za_34, za_35, za_41, za_42, za_43, za_44, za_45, za_46, za_47, za_48, za_49, za_61, za_62, za_63, za_64, za_65, za_71, za_72, za_73, za_74, za_75, za_76, za_77, za_78, za_79, za_80, za_81, za_82, za_83, za_84, za_85, za_86, za_87, za_88, za_89, za_90, za_91, za_92, za_93, za_94, za_95, za_96, za_97, za_98, za_99, za_100, za_101, za_102, za_103, za_104, za_105, za_106, za_107, za_108, bI_t, Bool.true_and, ex, ek, c']
      · rintro g b hb
        rw [hb]
        show S_X8_makesLeast_130 N (L_X8_makesLeast_94 N f) (L_X8_makesLeast_130 N (L_X8_makesLeast_94 N f) g) m2 (nI i) (nI j) (nI what) (nI k) (bI (nwS S k k)) (nI k) = _
        unfold S_X8_makesLeast_130
        simp (disch := omega) only [zi_t, zi_f, bnd_t, zg_in, zx, nI_ltI, nI_leI, nI_eq, nI_add, pk_mul, pk_sub, mup_s, mup_c, mup_j, mrw_c, if_pos, if_neg, zm_1, zm_2, zm_3, zm_4, zm_5, zm_6, zm_7, zm_8, zm_9, zf_0, zf_1, zf_2, zf_3, zf_4, zf_5, zf_6, zf_7, zf_8, zf_9, zf_10, zf_14, zf_15, zf_16, zf_18, zf_19, zf_20, zf_24, zf_30, zf_31, zf_32, zf_33, zf_99, zf_100, zf_160, zf_200, zf_287, zf_288, zf_300, zf_1000, zf_1023, zf_1024, zf_1600, zf_3840, zf_25600, zf_36000, zf_1000000, zf_1000000000, zf_2000000000, zf_11560, za_1, za_2, za_4, za_5, za_6, za_7, za_8, za_9, za_10, za_11, za_12, za_14, za_15, za_22, za_23, za_25, za_26, za_27, za_28, za_29, za_30, za_31, za_32, za_33, za_34, za_35, za_41, za_42, za_43, za_44, za_45, za_46, za_47, za_48, za_49, za_61, za_62, za_63, za_64, za_65, za_71, za_72, za_73, za_74, za_75, za_76, za_77, za_78, za_79, za_80, za_81, za_82, za_83, za_84, za_85, za_86, za_87, za_88, za_89, za_90, za_91, za_92, za_93, za_94, za_95, za_96, za_97, za_98, za_99, za_100, za_101, za_102, za_103, za_104, za_105, za_106, za_107, za_108]
    obtain ⟨s', p1, p2⟩ := h175 _ rfl
    refine ⟨s', p1, ?_⟩
    show S_X8_makesLeast_94 N (L_X8_makesLeast_94 N f) m1 (nI i) (nI j) (nI what) (nI k) = _
    rw [← p2, ← h130]
    unfold S_X8_makesLeast_94
    simp (disch := omega) only [zi_t, zi_f, bnd_t, zg_in, zx, nI_ltI, nI_leI, nI_eq, nI_add, pk_mul, pk_sub, mup_s, mup_c, mup_j, mrw_c, if_pos, if_neg, zm_1, zm_2, zm_3, zm_4, zm_5, zm_6, zm_7, zm_8, zm_9, zf_0, zf_1, zf_2, zf_3, zf_4, zf_5, zf_6, zf_7, zf_8, zf_9, zf_10, zf_14, zf_15, zf_16, zf_18, zf_19, zf_20, zf_24, zf_30, zf_31, zf_32, zf_33, zf_99, zf_100, zf_160, zf_200, zf_287, zf_288, zf_300, zf_1000, zf_1023, zf_1024, zf_1600, zf_3840, zf_25600, zf_36000, zf_1000000, zf_1000000000, zf_2000000000, zf_11560, za_1, za_2, za_4, za_5, za_6, za_7, za_8, za_9, za_10, za_11, za_12, za_14, za_15, za_22, za_23, za_25, za_26, za_27, za_28, za_29, za_30, za_31, za_32, za_33, za_34, za_35, za_41, za_42, za_43, za_44, za_45, za_46, za_47, za_48, za_49, za_61, za_62, za_63, za_64, za_65, za_71, za_72, za_73, za_74, za_75, za_76, za_77, za_78, za_79, za_80, za_81, za_82, za_83, za_84, za_85, za_86, za_87, za_88, za_89, za_90, za_91, za_92, za_93, za_94, za_95, za_96, za_97, za_98, za_99, za_100, za_101, za_102, za_103, za_104, za_105, za_106, za_107, za_108, h35]
    rw [cal_t hacc]
    simp (disch := omega) only [zi_t, zi_f, bnd_t, zg_in, zx, nI_ltI, nI_leI, nI_eq, nI_add, pk_mul, pk_sub, mup_s, mup_c, mup_j, mrw_c, if_pos, if_neg, zm_1, zm_2, zm_3, zm_4, zm_5, zm_6, zm_7, zm_8, zm_9, zf_0, zf_1, zf_2, zf_3, zf_4, zf_5, zf_6, zf_7, zf_8, zf_9, zf_10, zf_14, zf_15, zf_16, zf_18, zf_19, zf_20, zf_24, zf_30, zf_31, zf_32, zf_33, zf_99, zf_100, zf_160, zf_200, zf_287, zf_288, zf_300, zf_1000, zf_1023, zf_1024, zf_1600, zf_3840, zf_25600, zf_36000, zf_1000000, zf_1000000000, zf_2000000000, zf_11560, za_1, za_2, za_4, za_5, za_6, za_7, za_8, za_9, za_10, za_11, za_12, za_14, za_15, za_22, za_23, za_25, za_26, za_27, za_28, za_29, za_30, za_31, za_32, za_33, za_34, za_35, za_41, za_42, za_43, za_44, za_45, za_46, za_47, za_48, za_49, za_61, za_62, za_63, za_64, za_65, za_71, za_72, za_73, za_74, za_75, za_76, za_77, za_78, za_79, za_80, za_81, za_82, za_83, za_84, za_85, za_86, za_87, za_88, za_89, za_90, za_91, za_92, za_93, za_94, za_95, za_96, za_97, za_98, za_99, za_100, za_101, za_102, za_103, za_104, za_105, za_106, za_107, za_108, e97]
    rw [gd_t (bI_isb' _), ← hm2e, bI_t]
  · rintro f m1 ⟨i1, i2⟩
    have h35 : m1 70 35 = nI s.1.length := by rw [i2.2 35 (by simp)]; exact h.1
    have e97 : m1 97 0 = nI (S 0) := by rw [i2.1 97 (by omega) (by omega)]; exact (hS 0 (by omega)).1
    have b97 := (hS 0 (by omega)).2
    refine ⟨m1, i1, i2, ?_⟩
    show S_X8_makesLeast_94 N (L_X8_makesLeast_94 N f) m1 (nI i) (nI j) (nI what) (nI s.1.length) = _
    unfold S_X8_makesLeast_94 tW
    simp (disch := omega) only [zi_t, zi_f, bnd_t, zg_in, zx, nI_ltI, nI_leI, nI_eq, nI_add, pk_mul, pk_sub, mup_s, mup_c, mup_j, mrw_c, if_pos, if_neg, zm_1, zm_2, zm_3, zm_4, zm_5, zm_6, zm_7, zm_8, zm_9, zf_0, zf_1, zf_2, zf_3, zf_4, zf_5, zf_6, zf_7, zf_8, zf_9, zf_10, zf_14, zf_15, zf_16, zf_18, zf_19, zf_20, zf_24, zf_30, zf_31, zf_32, zf_33, zf_99, zf_100, zf_160, zf_200, zf_287, zf_288, zf_300, zf_1000, zf_1023, zf_1024, zf_1600, zf_3840, zf_25600, zf_36000, zf_1000000, zf_1000000000, zf_2000000000, zf_11560, za_1, za_2, za_4, za_5, za_6, za_7, za_8, za_9, za_10, za_11, za_12, za_14, za_15, za_22, za_23, za_25, za_26, za_27, za_28, za_29, za_30, za_31, za_32, za_33, za_34, za_35, za_41, za_42, za_43, za_44, za_45, za_46, za_47, za_48, za_49, za_61, za_62, za_63, za_64, za_65, za_71, za_72, za_73, za_74, za_75, za_76, za_77, za_78, za_79, za_80, za_81, za_82, za_83, za_84, za_85, za_86, za_87, za_88, za_89, za_90, za_91, za_92, za_93, za_94, za_95, za_96, za_97, za_98, za_99, za_100, za_101, za_102, za_103, za_104, za_105, za_106, za_107, za_108, h35, e97]
