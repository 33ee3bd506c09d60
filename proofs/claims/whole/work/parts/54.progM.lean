def S_X8_sorts_95 (N : Nat) (rec_95 : Mem → Int32 → Int32 → Option (Int32 × Mem)) (m : Mem) (x1 : Int32) (x2 : Int32) : Option (Int32 × Mem) :=
  if (m 70 35) ≤ x2 then (
    some (x1, m)
  ) else (
    gd (inb x2 (alen 98)) <|
    gd (inb x2 (alen 97)) <|
    bnd (mup m 97 (ix x2) (m 98 (ix x2))) fun m18 =>
    bnd (x2 + (1 : Int32)) fun y19 =>
    rec_95 m18 x1 y19
  )
def L_X8_sorts_95 (N : Nat) : Nat → Mem → Int32 → Int32 → Option (Int32 × Mem)
  | 0 => fun _ _ _ => none
  | f + 1 => S_X8_sorts_95 N (L_X8_sorts_95 N f)
set_option maxRecDepth 100000 in
set_option maxHeartbeats 4000000 in
theorem lp_X8_sorts_95 {N : Nat} {K : KT} {m' : Mem} {r : Int32} (hK : KOK K cX8_sorts 4 RX8 wsX8_sorts 1 0 26) (hR : KRet K (some .int) (some r) m') : ∀ (f : Nat) {m : Mem} {x1 : Int32} {x2 : Int32}, L_X8_sorts_95 N f m x1 x2 = some (r, m') → AW K 0 95 [(0, q_r 70), (1, q_i x1), (2, q_i x2)] [] m := by
  intro f
  induction f with
  | zero => intro m x1 x2 hF; cases hF
  | succ f hrec_95 =>
    intro m x1 x2 hF
    have hF : S_X8_sorts_95 N (L_X8_sorts_95 N f) m x1 x2 = some (r, m') := hF
    unfold S_X8_sorts_95 at hF
    refine aw_iload_n hK 2 rfl dX8_sorts_95 ?_
    refine aw_aload_n hK 0 rfl dX8_sorts_96 ?_
    refine gf_8_35 hK rfl (List.mem_of_getElem? (i := 1) rfl) dX8_sorts_97 ?_
    refine aw_icmp_ge hK 121 rfl dX8_sorts_100 (fun hc => ?_) (fun hc => ?_)
    · have hF := if_t hF hc
      refine aw_iload_n hK 1 rfl dX8_sorts_121 ?_
      obtain ⟨rfl, rfl⟩ := so_inj hF
      exact aw_iret hK hR rfl dX8_sorts_122
    · have hF := if_f hF hc
      refine aw_aload_n hK 0 rfl dX8_sorts_103 ?_
      refine gf_8_33 hK rfl (97) rfl (List.mem_of_getElem? (i := 3) rfl) dX8_sorts_104 ?_
      refine aw_iload_n hK 2 rfl dX8_sorts_107 ?_
      refine aw_aload_n hK 0 rfl dX8_sorts_108 ?_
      refine gf_8_34 hK rfl (98) rfl (List.mem_of_getElem? (i := 2) rfl) dX8_sorts_109 ?_
      refine aw_iload_n hK 2 rfl dX8_sorts_112 ?_
      obtain ⟨g16, hF⟩ := gd_some hF
      refine aw_iald hK rfl g16 dX8_sorts_113 ?_
      obtain ⟨g17, hF⟩ := gd_some hF
      refine aw_iast hK rfl g17 dX8_sorts_114 ?_
      obtain ⟨m18, hm18, hF⟩ := bnd_some hF
      refine aw_mm hm18 ?_
      obtain ⟨y19, hy19, hF⟩ := bnd_some hF
      refine aw_iinc hK (cz := 1) 2 [(2, q_i y19), (0, q_r 70), (1, q_i x1)] (by decide) rfl rfl hy19 rfl dX8_sorts_115 ?_
      refine aw_goto hK 95 rfl dX8_sorts_118 ?_
      refine aw_sub [1, 2, 0] (lv' := [(0, q_r 70), (1, q_i x1), (2, q_i y19)]) rfl ?_
      exact hrec_95 hF
def B_X8_sorts_87 (N : Nat) (rec_4 : Mem → Int32 → Int32 → Option (Int32 × Mem)) (m : Mem) (x1 : Int32) (x2 : Int32) : Option (Int32 × Mem) :=
  bnd (x2 + (1 : Int32)) fun y15 =>
  rec_4 m x1 y15
set_option maxRecDepth 100000 in
set_option maxHeartbeats 4000000 in
theorem bk_X8_sorts_87 {N : Nat} {K : KT} {m' : Mem} {rec_4 : Mem → Int32 → Int32 → Option (Int32 × Mem)} {r : Int32} (hK : KOK K cX8_sorts 4 RX8 wsX8_sorts 1 0 26) (hR : KRet K (some .int) (some r) m') (hrec_4 : ∀ {m : Mem} {x1 : Int32} {x2 : Int32}, rec_4 m x1 x2 = some (r, m') → AW K 0 4 [(0, q_r 70), (1, q_i x1), (2, q_i x2)] [] m) {m : Mem} {x1 : Int32} {x2 : Int32} (hF : B_X8_sorts_87 N rec_4 m x1 x2 = some (r, m')) : AW K 0 87 [(0, q_r 70), (1, q_i x1), (2, q_i x2)] [] m := by
  unfold B_X8_sorts_87 at hF
  obtain ⟨y15, hy15, hF⟩ := bnd_some hF
  refine aw_iinc hK (cz := 1) 2 [(2, q_i y15), (0, q_r 70), (1, q_i x1)] (by decide) rfl rfl hy15 rfl dX8_sorts_87 ?_
  refine aw_goto hK 4 rfl dX8_sorts_90 ?_
  refine aw_sub [1, 2, 0] (lv' := [(0, q_r 70), (1, q_i x1), (2, q_i y15)]) rfl ?_
  exact hrec_4 hF
def B_X8_sorts_67 (N : Nat) (rec_4 : Mem → Int32 → Int32 → Option (Int32 × Mem)) (m : Mem) (x1 : Int32) (x2 : Int32) : Option (Int32 × Mem) :=
  gd (inb x2 (alen 98)) <|
  if (m 98 (ix x2)) = (-1 : Int32) then (
    gd (inb x2 (alen 98)) <|
    bnd (mup m 98 (ix x2) x1) fun m13 =>
    bnd (x1 + (1 : Int32)) fun y14 =>
    B_X8_sorts_87 N rec_4 m13 y14 x2
  ) else (
    B_X8_sorts_87 N rec_4 m x1 x2
  )
set_option maxRecDepth 100000 in
set_option maxHeartbeats 4000000 in
theorem bk_X8_sorts_67 {N : Nat} {K : KT} {m' : Mem} {rec_4 : Mem → Int32 → Int32 → Option (Int32 × Mem)} {r : Int32} (hK : KOK K cX8_sorts 4 RX8 wsX8_sorts 1 0 26) (hR : KRet K (some .int) (some r) m') (hrec_4 : ∀ {m : Mem} {x1 : Int32} {x2 : Int32}, rec_4 m x1 x2 = some (r, m') → AW K 0 4 [(0, q_r 70), (1, q_i x1), (2, q_i x2)] [] m) {m : Mem} {x1 : Int32} {x2 : Int32} (hF : B_X8_sorts_67 N rec_4 m x1 x2 = some (r, m')) : AW K 0 67 [(0, q_r 70), (1, q_i x1), (2, q_i x2)] [] m := by
  unfold B_X8_sorts_67 at hF
  refine aw_aload_n hK 0 rfl dX8_sorts_67 ?_
  refine gf_8_34 hK rfl (98) rfl (List.mem_of_getElem? (i := 2) rfl) dX8_sorts_68 ?_
  refine aw_iload_n hK 2 rfl dX8_sorts_71 ?_
  obtain ⟨g11, hF⟩ := gd_some hF
  refine aw_iald hK rfl g11 dX8_sorts_72 ?_
  refine aw_iconst hK (-1) rfl dX8_sorts_73 ?_
  refine aw_icmp_ne hK 87 rfl dX8_sorts_74 (fun hc => ?_) (fun hc => ?_)
  · have hF := if_f hF hc
    refine aw_sub [0, 1, 2] (lv' := [(0, q_r 70), (1, q_i x1), (2, q_i x2)]) rfl ?_
    exact bk_X8_sorts_87 hK hR hrec_4 hF
  · have hF := if_t hF hc
    refine aw_aload_n hK 0 rfl dX8_sorts_77 ?_
    refine gf_8_34 hK rfl (98) rfl (List.mem_of_getElem? (i := 2) rfl) dX8_sorts_78 ?_
    refine aw_iload_n hK 2 rfl dX8_sorts_81 ?_
    refine aw_iload_n hK 1 rfl dX8_sorts_82 ?_
    obtain ⟨g12, hF⟩ := gd_some hF
    refine aw_iast hK rfl g12 dX8_sorts_83 ?_
    obtain ⟨m13, hm13, hF⟩ := bnd_some hF
    refine aw_mm hm13 ?_
    obtain ⟨y14, hy14, hF⟩ := bnd_some hF
    refine aw_iinc hK (cz := 1) 1 [(1, q_i y14), (0, q_r 70), (2, q_i x2)] (by decide) rfl rfl hy14 rfl dX8_sorts_84 ?_
    refine aw_sub [1, 0, 2] (lv' := [(0, q_r 70), (1, q_i y14), (2, q_i x2)]) rfl ?_
    exact bk_X8_sorts_87 hK hR hrec_4 hF
def B_X8_sorts_60 (N : Nat) (rec_4 : Mem → Int32 → Int32 → Option (Int32 × Mem)) (rec_21 : Mem → Int32 → Int32 → Int32 → Option (Int32 × Mem)) (m : Mem) (x1 : Int32) (x2 : Int32) (x3 : Int32) (s0 : Int32) (s1 : Int32) : Option (Int32 × Mem) :=
  gd (inb s1 (alen 98)) <|
  bnd (mup m 98 (ix s1) s0) fun m9 =>
  bnd (x3 + (1 : Int32)) fun y10 =>
  rec_21 m9 x1 x2 y10
set_option maxRecDepth 100000 in
set_option maxHeartbeats 4000000 in
theorem bk_X8_sorts_60 {N : Nat} {K : KT} {m' : Mem} {rec_4 : Mem → Int32 → Int32 → Option (Int32 × Mem)} {rec_21 : Mem → Int32 → Int32 → Int32 → Option (Int32 × Mem)} {r : Int32} (hK : KOK K cX8_sorts 4 RX8 wsX8_sorts 1 0 26) (hR : KRet K (some .int) (some r) m') (hrec_4 : ∀ {m : Mem} {x1 : Int32} {x2 : Int32}, rec_4 m x1 x2 = some (r, m') → AW K 0 4 [(0, q_r 70), (1, q_i x1), (2, q_i x2)] [] m) (hrec_21 : ∀ {m : Mem} {x1 : Int32} {x2 : Int32} {x3 : Int32}, rec_21 m x1 x2 x3 = some (r, m') → AW K 0 21 [(0, q_r 70), (1, q_i x1), (2, q_i x2), (3, q_i x3)] [] m) {m : Mem} {x1 : Int32} {x2 : Int32} {x3 : Int32} {s0 : Int32} {s1 : Int32} (hF : B_X8_sorts_60 N rec_4 rec_21 m x1 x2 x3 s0 s1 = some (r, m')) : AW K 0 60 [(0, q_r 70), (1, q_i x1), (2, q_i x2), (3, q_i x3)] [q_i s0, q_i s1, q_r 98] m := by
  unfold B_X8_sorts_60 at hF
  obtain ⟨g8, hF⟩ := gd_some hF
  refine aw_iast hK rfl g8 dX8_sorts_60 ?_
  obtain ⟨m9, hm9, hF⟩ := bnd_some hF
  refine aw_mm hm9 ?_
  obtain ⟨y10, hy10, hF⟩ := bnd_some hF
  refine aw_iinc hK (cz := 1) 3 [(3, q_i y10), (0, q_r 70), (1, q_i x1), (2, q_i x2)] (by decide) rfl rfl hy10 rfl dX8_sorts_61 ?_
  refine aw_goto hK 21 rfl dX8_sorts_64 ?_
  refine aw_sub [1, 2, 3, 0] (lv' := [(0, q_r 70), (1, q_i x1), (2, q_i x2), (3, q_i y10)]) rfl ?_
  exact hrec_21 hF
def S_X8_sorts_21 (N : Nat) (rec_4 : Mem → Int32 → Int32 → Option (Int32 × Mem)) (rec_21 : Mem → Int32 → Int32 → Int32 → Option (Int32 × Mem)) (m : Mem) (x1 : Int32) (x2 : Int32) (x3 : Int32) : Option (Int32 × Mem) :=
  if x2 ≤ x3 then (
    B_X8_sorts_67 N rec_4 m x1 x2
  ) else (
    gd (inb x2 (alen 98)) <|
    if (m 98 (ix x2)) = (-1 : Int32) then (
      cal (F_X8_areAlike N m x3 x2) fun r6 m5 =>
      if r6 = (0 : Int32) then (
        B_X8_sorts_60 N rec_4 rec_21 m5 x1 x2 x3 (-1 : Int32) x2
      ) else (
        gd (inb x3 (alen 98)) <|
        B_X8_sorts_60 N rec_4 rec_21 m5 x1 x2 x3 (m5 98 (ix x3)) x2
      )
    ) else (
      B_X8_sorts_67 N rec_4 m x1 x2
    )
  )
def L_X8_sorts_21 (N : Nat) (rec_4 : Mem → Int32 → Int32 → Option (Int32 × Mem)) : Nat → Mem → Int32 → Int32 → Int32 → Option (Int32 × Mem)
  | 0 => fun _ _ _ _ => none
  | f + 1 => S_X8_sorts_21 N rec_4 (L_X8_sorts_21 N rec_4 f)
set_option maxRecDepth 100000 in
set_option maxHeartbeats 4000000 in
theorem lp_X8_sorts_21 {N : Nat} {K : KT} {m' : Mem} {rec_4 : Mem → Int32 → Int32 → Option (Int32 × Mem)} {r : Int32} (hK : KOK K cX8_sorts 4 RX8 wsX8_sorts 1 0 26) (hR : KRet K (some .int) (some r) m') (hrec_4 : ∀ {m : Mem} {x1 : Int32} {x2 : Int32}, rec_4 m x1 x2 = some (r, m') → AW K 0 4 [(0, q_r 70), (1, q_i x1), (2, q_i x2)] [] m) : ∀ (f : Nat) {m : Mem} {x1 : Int32} {x2 : Int32} {x3 : Int32}, L_X8_sorts_21 N rec_4 f m x1 x2 x3 = some (r, m') → AW K 0 21 [(0, q_r 70), (1, q_i x1), (2, q_i x2), (3, q_i x3)] [] m := by
  intro f
  induction f with
  | zero => intro m x1 x2 x3 hF; cases hF
  | succ f hrec_21 =>
    intro m x1 x2 x3 hF
    have hF : S_X8_sorts_21 N rec_4 (L_X8_sorts_21 N rec_4 f) m x1 x2 x3 = some (r, m') := hF
    unfold S_X8_sorts_21 at hF
    refine aw_iload_n hK 3 rfl dX8_sorts_21 ?_
    refine aw_iload_n hK 2 rfl dX8_sorts_22 ?_
    refine aw_icmp_ge hK 67 rfl dX8_sorts_23 (fun hc => ?_) (fun hc => ?_)
    · have hF := if_t hF hc
      refine aw_sub [0, 1, 2] (lv' := [(0, q_r 70), (1, q_i x1), (2, q_i x2)]) rfl ?_
      exact bk_X8_sorts_67 hK hR hrec_4 hF
    · have hF := if_f hF hc
      refine aw_aload_n hK 0 rfl dX8_sorts_26 ?_
      refine gf_8_34 hK rfl (98) rfl (List.mem_of_getElem? (i := 2) rfl) dX8_sorts_27 ?_
      refine aw_iload_n hK 2 rfl dX8_sorts_30 ?_
      obtain ⟨g3, hF⟩ := gd_some hF
      refine aw_iald hK rfl g3 dX8_sorts_31 ?_
      refine aw_iconst hK (-1) rfl dX8_sorts_32 ?_
      refine aw_icmp_ne hK 67 rfl dX8_sorts_33 (fun hc => ?_) (fun hc => ?_)
      · have hF := if_f hF hc
        refine aw_sub [0, 1, 2] (lv' := [(0, q_r 70), (1, q_i x1), (2, q_i x2)]) rfl ?_
        exact bk_X8_sorts_67 hK hR hrec_4 hF
      · have hF := if_t hF hc
        refine aw_aload_n hK 0 rfl dX8_sorts_36 ?_
        refine gf_8_34 hK rfl (98) rfl (List.mem_of_getElem? (i := 2) rfl) dX8_sorts_37 ?_
        refine aw_iload_n hK 2 rfl dX8_sorts_40 ?_
        refine aw_aload_n hK 0 rfl dX8_sorts_41 ?_
        refine aw_iload_n hK 3 rfl dX8_sorts_42 ?_
        refine aw_iload_n hK 2 rfl dX8_sorts_43 ?_
        obtain ⟨r6, m5, h4, hF⟩ := cal_some hF
        refine aw_cv hK 8 (as := [q_i x3, q_i x2]) (tr_X8_areAlike h4) gX8_sorts_X8_areAlike rfl rfl rfl (by decide) (na := 2) (by decide +kernel) rfl ⟨by decide, by decide⟩ (Nat.zero_le _) (Nat.le_of_ble_eq_true rfl) dX8_sorts_44 ?_
        refine aw_if_eq hK 59 rfl dX8_sorts_47 (fun hc => ?_) (fun hc => ?_)
        · have hF := if_t hF hc
          refine aw_iconst hK (-1) rfl dX8_sorts_59 ?_
          refine aw_sub [0, 1, 2, 3] (lv' := [(0, q_r 70), (1, q_i x1), (2, q_i x2), (3, q_i x3)]) rfl ?_
          exact bk_X8_sorts_60 hK hR hrec_4 hrec_21 hF
        · have hF := if_f hF hc
          refine aw_aload_n hK 0 rfl dX8_sorts_50 ?_
          refine gf_8_34 hK rfl (98) rfl (List.mem_of_getElem? (i := 2) rfl) dX8_sorts_51 ?_
          refine aw_iload_n hK 3 rfl dX8_sorts_54 ?_
          obtain ⟨g7, hF⟩ := gd_some hF
          refine aw_iald hK rfl g7 dX8_sorts_55 ?_
          refine aw_goto hK 60 rfl dX8_sorts_56 ?_
          refine aw_sub [0, 1, 2, 3] (lv' := [(0, q_r 70), (1, q_i x1), (2, q_i x2), (3, q_i x3)]) rfl ?_
          exact bk_X8_sorts_60 hK hR hrec_4 hrec_21 hF
def S_X8_sorts_4 (N : Nat) (rec_4 : Mem → Int32 → Int32 → Option (Int32 × Mem)) (m : Mem) (x1 : Int32) (x2 : Int32) : Option (Int32 × Mem) :=
  if (m 70 35) ≤ x2 then (
    L_X8_sorts_95 N N m x1 (0 : Int32)
  ) else (
    gd (inb x2 (alen 98)) <|
    bnd (mup m 98 (ix x2) (-1 : Int32)) fun m2 =>
    L_X8_sorts_21 N rec_4 N m2 x1 x2 (0 : Int32)
  )
def L_X8_sorts_4 (N : Nat) : Nat → Mem → Int32 → Int32 → Option (Int32 × Mem)
  | 0 => fun _ _ _ => none
  | f + 1 => S_X8_sorts_4 N (L_X8_sorts_4 N f)
set_option maxRecDepth 100000 in
set_option maxHeartbeats 4000000 in
theorem lp_X8_sorts_4 {N : Nat} {K : KT} {m' : Mem} {r : Int32} (hK : KOK K cX8_sorts 4 RX8 wsX8_sorts 1 0 26) (hR : KRet K (some .int) (some r) m') : ∀ (f : Nat) {m : Mem} {x1 : Int32} {x2 : Int32}, L_X8_sorts_4 N f m x1 x2 = some (r, m') → AW K 0 4 [(0, q_r 70), (1, q_i x1), (2, q_i x2)] [] m := by
  intro f
  induction f with
  | zero => intro m x1 x2 hF; cases hF
  | succ f hrec_4 =>
    intro m x1 x2 hF
    have hF : S_X8_sorts_4 N (L_X8_sorts_4 N f) m x1 x2 = some (r, m') := hF
    unfold S_X8_sorts_4 at hF
    refine aw_iload_n hK 2 rfl dX8_sorts_4 ?_
    refine aw_aload_n hK 0 rfl dX8_sorts_5 ?_
    refine gf_8_35 hK rfl (List.mem_of_getElem? (i := 1) rfl) dX8_sorts_6 ?_
    refine aw_icmp_ge hK 93 rfl dX8_sorts_9 (fun hc => ?_) (fun hc => ?_)
    · have hF := if_t hF hc
      refine aw_iconst hK (0) rfl dX8_sorts_93 ?_
      refine aw_istore_n hK [(2, q_i (0 : Int32)), (0, q_r 70), (1, q_i x1)] (by decide) rfl dX8_sorts_94 ?_
      refine aw_sub [1, 2, 0] (lv' := [(0, q_r 70), (1, q_i x1), (2, q_i (0 : Int32))]) rfl ?_
      exact lp_X8_sorts_95 hK hR _ hF
    · have hF := if_f hF hc
      refine aw_aload_n hK 0 rfl dX8_sorts_12 ?_
      refine gf_8_34 hK rfl (98) rfl (List.mem_of_getElem? (i := 2) rfl) dX8_sorts_13 ?_
      refine aw_iload_n hK 2 rfl dX8_sorts_16 ?_
      refine aw_iconst hK (-1) rfl dX8_sorts_17 ?_
      obtain ⟨g1, hF⟩ := gd_some hF
      refine aw_iast hK rfl g1 dX8_sorts_18 ?_
      obtain ⟨m2, hm2, hF⟩ := bnd_some hF
      refine aw_mm hm2 ?_
      refine aw_iconst hK (0) rfl dX8_sorts_19 ?_
      refine aw_istore_n hK [(3, q_i (0 : Int32)), (0, q_r 70), (1, q_i x1), (2, q_i x2)] (by decide) rfl dX8_sorts_20 ?_
      refine aw_sub [1, 2, 3, 0] (lv' := [(0, q_r 70), (1, q_i x1), (2, q_i x2), (3, q_i (0 : Int32))]) rfl ?_
      exact lp_X8_sorts_21 hK hR hrec_4 _ hF
def F_X8_sorts (N : Nat) (m : Mem) : Option (Int32 × Mem) :=
  L_X8_sorts_4 N N m (0 : Int32) (0 : Int32)
set_option maxRecDepth 100000 in
set_option maxHeartbeats 4000000 in
theorem tr_X8_sorts {N : Nat} {m m' : Mem} {r : Int32} (hF : F_X8_sorts N m = some (r, m')) : Tr yX8_sorts wsX8_sorts 1 26 [q_r 70] m (some r) m' := by
  refine tr_of (bytes := cX8_sorts) (maxL := 4) (ret := (some .int)) (by decide) rfl (Nat.le_of_ble_eq_true rfl) (fun K hK hR => ?_)
  have hK : KOK K cX8_sorts 4 RX8 wsX8_sorts 1 0 26 := hK
  show AW K 0 0 [(0, q_r 70)] [] m
  unfold F_X8_sorts at hF
  refine aw_iconst hK (0) rfl dX8_sorts_0 ?_
  refine aw_istore_n hK [(1, q_i (0 : Int32)), (0, q_r 70)] (by decide) rfl dX8_sorts_1 ?_
  refine aw_iconst hK (0) rfl dX8_sorts_2 ?_
  refine aw_istore_n hK [(2, q_i (0 : Int32)), (1, q_i (0 : Int32)), (0, q_r 70)] (by decide) rfl dX8_sorts_3 ?_
  refine aw_sub [2, 1, 0] (lv' := [(0, q_r 70), (1, q_i (0 : Int32)), (2, q_i (0 : Int32))]) rfl ?_
  exact lp_X8_sorts_4 hK hR _ hF
def B_X8_prunes_194 (N : Nat) (rec_143 : Mem → Int32 → Option Mem) (m : Mem) (x2 : Int32) (s0 : Int32) (s1 : Int32) : Option Mem :=
  gd (inb s1 (alen 94)) <|
  bnd (mup m 94 (ix s1) s0) fun m18 =>
  bnd (x2 + (1 : Int32)) fun y19 =>
  rec_143 m18 y19
set_option maxRecDepth 100000 in
set_option maxHeartbeats 4000000 in
theorem bk_X8_prunes_194 {N : Nat} {K : KT} {m' : Mem} {rec_143 : Mem → Int32 → Option Mem} (hK : KOK K cX8_prunes 4 RX8 wsX8_prunes 0 0 0) (hR : KRet K none none m') (hrec_143 : ∀ {m : Mem} {x2 : Int32}, rec_143 m x2 = some m' → AW K 0 143 [(0, q_r 70), (2, q_i x2)] [] m) {m : Mem} {x2 : Int32} {s0 : Int32} {s1 : Int32} (hF : B_X8_prunes_194 N rec_143 m x2 s0 s1 = some m') : AW K 0 194 [(0, q_r 70), (2, q_i x2)] [q_i s0, q_i s1, q_r 94] m := by
  unfold B_X8_prunes_194 at hF
  obtain ⟨g17, hF⟩ := gd_some hF
  refine aw_iast hK rfl g17 dX8_prunes_194 ?_
  obtain ⟨m18, hm18, hF⟩ := bnd_some hF
  refine aw_mm hm18 ?_
  obtain ⟨y19, hy19, hF⟩ := bnd_some hF
  refine aw_iinc hK (cz := 1) 1 [(2, q_i y19), (0, q_r 70)] (by decide) rfl rfl hy19 rfl dX8_prunes_195 ?_
  refine aw_goto hK 143 rfl dX8_prunes_198 ?_
  refine aw_sub [1, 0] (lv' := [(0, q_r 70), (2, q_i y19)]) rfl ?_
  exact hrec_143 hF
def B_X8_prunes_193 (N : Nat) (rec_143 : Mem → Int32 → Option Mem) (m : Mem) (x2 : Int32) (s0 : Int32) : Option Mem :=
  B_X8_prunes_194 N rec_143 m x2 (-1 : Int32) s0
set_option maxRecDepth 100000 in
set_option maxHeartbeats 4000000 in
theorem bk_X8_prunes_193 {N : Nat} {K : KT} {m' : Mem} {rec_143 : Mem → Int32 → Option Mem} (hK : KOK K cX8_prunes 4 RX8 wsX8_prunes 0 0 0) (hR : KRet K none none m') (hrec_143 : ∀ {m : Mem} {x2 : Int32}, rec_143 m x2 = some m' → AW K 0 143 [(0, q_r 70), (2, q_i x2)] [] m) {m : Mem} {x2 : Int32} {s0 : Int32} (hF : B_X8_prunes_193 N rec_143 m x2 s0 = some m') : AW K 0 193 [(0, q_r 70), (2, q_i x2)] [q_i s0, q_r 94] m := by
  unfold B_X8_prunes_193 at hF
  refine aw_iconst hK (-1) rfl dX8_prunes_193 ?_
  refine aw_sub [0, 1] (lv' := [(0, q_r 70), (2, q_i x2)]) rfl ?_
  exact bk_X8_prunes_194 hK hR hrec_143 hF
def S_X8_prunes_143 (N : Nat) (rec_143 : Mem → Int32 → Option Mem) (m : Mem) (x2 : Int32) : Option Mem :=
  if ((8 : Int32) * (m 70 35)) ≤ x2 then (
    some m
  ) else (
    gd (inb x2 (alen 94)) <|
    if (m 94 (ix x2)) = (-1 : Int32) then (
      B_X8_prunes_193 N rec_143 m x2 x2
    ) else (
      gd (inb x2 (alen 94)) <|
      gd (inb (m 94 (ix x2)) (alen 98)) <|
      if (m 98 (ix (m 94 (ix x2)))) = (1 : Int32) then (
        gd (inb x2 (alen 94)) <|
        B_X8_prunes_194 N rec_143 m x2 (m 94 (ix x2)) x2
      ) else (
        B_X8_prunes_193 N rec_143 m x2 x2
      )
    )
  )
def L_X8_prunes_143 (N : Nat) : Nat → Mem → Int32 → Option Mem
  | 0 => fun _ _ => none
  | f + 1 => S_X8_prunes_143 N (L_X8_prunes_143 N f)
set_option maxRecDepth 100000 in
set_option maxHeartbeats 4000000 in
theorem lp_X8_prunes_143 {N : Nat} {K : KT} {m' : Mem} (hK : KOK K cX8_prunes 4 RX8 wsX8_prunes 0 0 0) (hR : KRet K none none m') : ∀ (f : Nat) {m : Mem} {x2 : Int32}, L_X8_prunes_143 N f m x2 = some m' → AW K 0 143 [(0, q_r 70), (2, q_i x2)] [] m := by
  intro f
  induction f with
  | zero => intro m x2 hF; cases hF
  | succ f hrec_143 =>
    intro m x2 hF
    have hF : S_X8_prunes_143 N (L_X8_prunes_143 N f) m x2 = some m' := hF
    unfold S_X8_prunes_143 at hF
    refine aw_iload_n hK 1 rfl dX8_prunes_143 ?_
    refine aw_bipush hK (8) rfl dX8_prunes_144 ?_
    refine aw_aload_n hK 0 rfl dX8_prunes_146 ?_
    refine gf_8_35 hK rfl (List.mem_of_getElem? (i := 1) rfl) dX8_prunes_147 ?_
    refine aw_imul hK dX8_prunes_150 ?_
    refine aw_icmp_ge hK 201 rfl dX8_prunes_151 (fun hc => ?_) (fun hc => ?_)
    · have hF := if_t hF hc
      obtain rfl := Option.some.inj hF
      exact aw_vret hK hR dX8_prunes_201
    · have hF := if_f hF hc
      refine aw_aload_n hK 0 rfl dX8_prunes_154 ?_
      refine gf_8_30 hK rfl (94) rfl (List.mem_of_getElem? (i := 4) rfl) dX8_prunes_155 ?_
      refine aw_iload_n hK 1 rfl dX8_prunes_158 ?_
      refine aw_aload_n hK 0 rfl dX8_prunes_159 ?_
      refine gf_8_30 hK rfl (94) rfl (List.mem_of_getElem? (i := 4) rfl) dX8_prunes_160 ?_
      refine aw_iload_n hK 1 rfl dX8_prunes_163 ?_
      obtain ⟨g13, hF⟩ := gd_some hF
      refine aw_iald hK rfl g13 dX8_prunes_164 ?_
      refine aw_iconst hK (-1) rfl dX8_prunes_165 ?_
      refine aw_icmp_eq hK 193 rfl dX8_prunes_166 (fun hc => ?_) (fun hc => ?_)
      · have hF := if_t hF hc
        refine aw_sub [0, 1] (lv' := [(0, q_r 70), (2, q_i x2)]) rfl ?_
        exact bk_X8_prunes_193 hK hR hrec_143 hF
      · have hF := if_f hF hc
        refine aw_aload_n hK 0 rfl dX8_prunes_169 ?_
        refine gf_8_34 hK rfl (98) rfl (List.mem_of_getElem? (i := 2) rfl) dX8_prunes_170 ?_
        refine aw_aload_n hK 0 rfl dX8_prunes_173 ?_
        refine gf_8_30 hK rfl (94) rfl (List.mem_of_getElem? (i := 4) rfl) dX8_prunes_174 ?_
        refine aw_iload_n hK 1 rfl dX8_prunes_177 ?_
        obtain ⟨g14, hF⟩ := gd_some hF
        refine aw_iald hK rfl g14 dX8_prunes_178 ?_
        obtain ⟨g15, hF⟩ := gd_some hF
        refine aw_iald hK rfl g15 dX8_prunes_179 ?_
        refine aw_iconst hK (1) rfl dX8_prunes_180 ?_
        refine aw_icmp_ne hK 193 rfl dX8_prunes_181 (fun hc => ?_) (fun hc => ?_)
        · have hF := if_f hF hc
          refine aw_sub [0, 1] (lv' := [(0, q_r 70), (2, q_i x2)]) rfl ?_
          exact bk_X8_prunes_193 hK hR hrec_143 hF
        · have hF := if_t hF hc
          refine aw_aload_n hK 0 rfl dX8_prunes_184 ?_
          refine gf_8_30 hK rfl (94) rfl (List.mem_of_getElem? (i := 4) rfl) dX8_prunes_185 ?_
          refine aw_iload_n hK 1 rfl dX8_prunes_188 ?_
          obtain ⟨g16, hF⟩ := gd_some hF
          refine aw_iald hK rfl g16 dX8_prunes_189 ?_
          refine aw_goto hK 194 rfl dX8_prunes_190 ?_
          refine aw_sub [0, 1] (lv' := [(0, q_r 70), (2, q_i x2)]) rfl ?_
          exact bk_X8_prunes_194 hK hR hrec_143 hF
def B_X8_prunes_131 (N : Nat) (rec_30 : Mem → Int32 → Option Mem) (rec_38 : Mem → Int32 → Int32 → Option Mem) (m : Mem) (x2 : Int32) (s0 : Int32) : Option Mem :=
  bnd (x2 + (1 : Int32)) fun y12 =>
  rec_38 m s0 y12
set_option maxRecDepth 100000 in
set_option maxHeartbeats 4000000 in
theorem bk_X8_prunes_131 {N : Nat} {K : KT} {m' : Mem} {rec_30 : Mem → Int32 → Option Mem} {rec_38 : Mem → Int32 → Int32 → Option Mem} (hK : KOK K cX8_prunes 4 RX8 wsX8_prunes 0 0 0) (hR : KRet K none none m') (hrec_30 : ∀ {m : Mem} {x1 : Int32}, rec_30 m x1 = some m' → AW K 0 30 [(0, q_r 70), (1, q_i x1)] [] m) (hrec_38 : ∀ {m : Mem} {x1 : Int32} {x2 : Int32}, rec_38 m x1 x2 = some m' → AW K 0 38 [(0, q_r 70), (1, q_i x1), (2, q_i x2)] [] m) {m : Mem} {x2 : Int32} {s0 : Int32} (hF : B_X8_prunes_131 N rec_30 rec_38 m x2 s0 = some m') : AW K 0 131 [(0, q_r 70), (2, q_i x2)] [q_i s0] m := by
  unfold B_X8_prunes_131 at hF
  refine aw_istore_n hK [(1, q_i s0), (0, q_r 70), (2, q_i x2)] (by decide) rfl dX8_prunes_131 ?_
  obtain ⟨y12, hy12, hF⟩ := bnd_some hF
  refine aw_iinc hK (cz := 1) 2 [(2, q_i y12), (1, q_i s0), (0, q_r 70)] (by decide) rfl rfl hy12 rfl dX8_prunes_132 ?_
  refine aw_goto hK 38 rfl dX8_prunes_135 ?_
  refine aw_sub [2, 1, 0] (lv' := [(0, q_r 70), (1, q_i s0), (2, q_i y12)]) rfl ?_
  exact hrec_38 hF
def B_X8_prunes_126 (N : Nat) (rec_30 : Mem → Int32 → Option Mem) (rec_38 : Mem → Int32 → Int32 → Option Mem) (m : Mem) (x2 : Int32) : Option Mem :=
  B_X8_prunes_131 N rec_30 rec_38 m x2 (1 : Int32)
set_option maxRecDepth 100000 in
set_option maxHeartbeats 4000000 in
theorem bk_X8_prunes_126 {N : Nat} {K : KT} {m' : Mem} {rec_30 : Mem → Int32 → Option Mem} {rec_38 : Mem → Int32 → Int32 → Option Mem} (hK : KOK K cX8_prunes 4 RX8 wsX8_prunes 0 0 0) (hR : KRet K none none m') (hrec_30 : ∀ {m : Mem} {x1 : Int32}, rec_30 m x1 = some m' → AW K 0 30 [(0, q_r 70), (1, q_i x1)] [] m) (hrec_38 : ∀ {m : Mem} {x1 : Int32} {x2 : Int32}, rec_38 m x1 x2 = some m' → AW K 0 38 [(0, q_r 70), (1, q_i x1), (2, q_i x2)] [] m) {m : Mem} {x2 : Int32} (hF : B_X8_prunes_126 N rec_30 rec_38 m x2 = some m') : AW K 0 126 [(0, q_r 70), (2, q_i x2)] [] m := by
  unfold B_X8_prunes_126 at hF
  refine aw_iconst hK (1) rfl dX8_prunes_126 ?_
  refine aw_goto hK 131 rfl dX8_prunes_127 ?_
  refine aw_sub [0, 1] (lv' := [(0, q_r 70), (2, q_i x2)]) rfl ?_
  exact bk_X8_prunes_131 hK hR hrec_30 hrec_38 hF
def B_X8_prunes_117 (N : Nat) (rec_30 : Mem → Int32 → Option Mem) (rec_38 : Mem → Int32 → Int32 → Option Mem) (m : Mem) (x1 : Int32) (x2 : Int32) (x3 : Int32) (s0 : Int32) (s1 : Int32) : Option Mem :=
  gd (inb s1 (alen 98)) <|
  bnd (mup m 98 (ix s1) s0) fun m11 =>
  if x1 = (0 : Int32) then (
    if x3 = (0 : Int32) then (
      B_X8_prunes_131 N rec_30 rec_38 m11 x2 (0 : Int32)
    ) else (
      B_X8_prunes_126 N rec_30 rec_38 m11 x2
    )
  ) else (
    B_X8_prunes_126 N rec_30 rec_38 m11 x2
  )
set_option maxRecDepth 100000 in
set_option maxHeartbeats 4000000 in
theorem bk_X8_prunes_117 {N : Nat} {K : KT} {m' : Mem} {rec_30 : Mem → Int32 → Option Mem} {rec_38 : Mem → Int32 → Int32 → Option Mem} (hK : KOK K cX8_prunes 4 RX8 wsX8_prunes 0 0 0) (hR : KRet K none none m') (hrec_30 : ∀ {m : Mem} {x1 : Int32}, rec_30 m x1 = some m' → AW K 0 30 [(0, q_r 70), (1, q_i x1)] [] m) (hrec_38 : ∀ {m : Mem} {x1 : Int32} {x2 : Int32}, rec_38 m x1 x2 = some m' → AW K 0 38 [(0, q_r 70), (1, q_i x1), (2, q_i x2)] [] m) {m : Mem} {x1 : Int32} {x2 : Int32} {x3 : Int32} {s0 : Int32} {s1 : Int32} (hF : B_X8_prunes_117 N rec_30 rec_38 m x1 x2 x3 s0 s1 = some m') : AW K 0 117 [(0, q_r 70), (1, q_i x1), (2, q_i x2), (3, q_i x3)] [q_i s0, q_i s1, q_r 98] m := by
  unfold B_X8_prunes_117 at hF
  obtain ⟨g10, hF⟩ := gd_some hF
  refine aw_iast hK rfl g10 dX8_prunes_117 ?_
  obtain ⟨m11, hm11, hF⟩ := bnd_some hF
  refine aw_mm hm11 ?_
  refine aw_iload_n hK 1 rfl dX8_prunes_118 ?_
  refine aw_if_ne hK 126 rfl dX8_prunes_119 (fun hc => ?_) (fun hc => ?_)
  · have hF := if_f hF hc
    refine aw_sub [0, 2] (lv' := [(0, q_r 70), (2, q_i x2)]) rfl ?_
    exact bk_X8_prunes_126 hK hR hrec_30 hrec_38 hF
  · have hF := if_t hF hc
    refine aw_iload_n hK 3 rfl dX8_prunes_122 ?_
    refine aw_if_eq hK 130 rfl dX8_prunes_123 (fun hc => ?_) (fun hc => ?_)
    · have hF := if_t hF hc
      refine aw_iconst hK (0) rfl dX8_prunes_130 ?_
      refine aw_sub [0, 2] (lv' := [(0, q_r 70), (2, q_i x2)]) rfl ?_
      exact bk_X8_prunes_131 hK hR hrec_30 hrec_38 hF
    · have hF := if_f hF hc
      refine aw_sub [0, 2] (lv' := [(0, q_r 70), (2, q_i x2)]) rfl ?_
      exact bk_X8_prunes_126 hK hR hrec_30 hrec_38 hF
def B_X8_prunes_91 (N : Nat) (rec_30 : Mem → Int32 → Option Mem) (rec_38 : Mem → Int32 → Int32 → Option Mem) (m : Mem) (x1 : Int32) (x2 : Int32) (s0 : Int32) : Option Mem :=
  if s0 = (0 : Int32) then (
    gd (inb (x2 / (8 : Int32)) (alen 98)) <|
    B_X8_prunes_117 N rec_30 rec_38 m x1 x2 s0 (m 98 (ix (x2 / (8 : Int32)))) (x2 / (8 : Int32))
  ) else (
    B_X8_prunes_117 N rec_30 rec_38 m x1 x2 s0 (1 : Int32) (x2 / (8 : Int32))
  )
set_option maxRecDepth 100000 in
set_option maxHeartbeats 4000000 in
theorem bk_X8_prunes_91 {N : Nat} {K : KT} {m' : Mem} {rec_30 : Mem → Int32 → Option Mem} {rec_38 : Mem → Int32 → Int32 → Option Mem} (hK : KOK K cX8_prunes 4 RX8 wsX8_prunes 0 0 0) (hR : KRet K none none m') (hrec_30 : ∀ {m : Mem} {x1 : Int32}, rec_30 m x1 = some m' → AW K 0 30 [(0, q_r 70), (1, q_i x1)] [] m) (hrec_38 : ∀ {m : Mem} {x1 : Int32} {x2 : Int32}, rec_38 m x1 x2 = some m' → AW K 0 38 [(0, q_r 70), (1, q_i x1), (2, q_i x2)] [] m) {m : Mem} {x1 : Int32} {x2 : Int32} {s0 : Int32} (hF : B_X8_prunes_91 N rec_30 rec_38 m x1 x2 s0 = some m') : AW K 0 91 [(0, q_r 70), (1, q_i x1), (2, q_i x2)] [q_i s0] m := by
  unfold B_X8_prunes_91 at hF
  refine aw_istore_n hK [(3, q_i s0), (0, q_r 70), (1, q_i x1), (2, q_i x2)] (by decide) rfl dX8_prunes_91 ?_
  refine aw_aload_n hK 1 rfl dX8_prunes_92 ?_
  refine gf_8_34 hK rfl (98) rfl (List.mem_of_getElem? (i := 2) rfl) dX8_prunes_93 ?_
  refine aw_iload_n hK 3 rfl dX8_prunes_96 ?_
  refine aw_bipush hK (8) rfl dX8_prunes_97 ?_
  refine aw_idiv hK (by decide) dX8_prunes_99 ?_
  refine aw_iload_n hK 0 rfl dX8_prunes_100 ?_
  refine aw_if_eq hK 108 rfl dX8_prunes_101 (fun hc => ?_) (fun hc => ?_)
  · have hF := if_t hF hc
    refine aw_aload_n hK 1 rfl dX8_prunes_108 ?_
    refine gf_8_34 hK rfl (98) rfl (List.mem_of_getElem? (i := 2) rfl) dX8_prunes_109 ?_
    refine aw_iload_n hK 3 rfl dX8_prunes_112 ?_
    refine aw_bipush hK (8) rfl dX8_prunes_113 ?_
    refine aw_idiv hK (by decide) dX8_prunes_115 ?_
    obtain ⟨g9, hF⟩ := gd_some hF
    refine aw_iald hK rfl g9 dX8_prunes_116 ?_
    refine aw_sub [1, 2, 3, 0] (lv' := [(0, q_r 70), (1, q_i x1), (2, q_i x2), (3, q_i s0)]) rfl ?_
    exact bk_X8_prunes_117 hK hR hrec_30 hrec_38 hF
  · have hF := if_f hF hc
    refine aw_iconst hK (1) rfl dX8_prunes_104 ?_
    refine aw_goto hK 117 rfl dX8_prunes_105 ?_
    refine aw_sub [1, 2, 3, 0] (lv' := [(0, q_r 70), (1, q_i x1), (2, q_i x2), (3, q_i s0)]) rfl ?_
    exact bk_X8_prunes_117 hK hR hrec_30 hrec_38 hF
def B_X8_prunes_90 (N : Nat) (rec_30 : Mem → Int32 → Option Mem) (rec_38 : Mem → Int32 → Int32 → Option Mem) (m : Mem) (x1 : Int32) (x2 : Int32) : Option Mem :=
  B_X8_prunes_91 N rec_30 rec_38 m x1 x2 (0 : Int32)
set_option maxRecDepth 100000 in
set_option maxHeartbeats 4000000 in
theorem bk_X8_prunes_90 {N : Nat} {K : KT} {m' : Mem} {rec_30 : Mem → Int32 → Option Mem} {rec_38 : Mem → Int32 → Int32 → Option Mem} (hK : KOK K cX8_prunes 4 RX8 wsX8_prunes 0 0 0) (hR : KRet K none none m') (hrec_30 : ∀ {m : Mem} {x1 : Int32}, rec_30 m x1 = some m' → AW K 0 30 [(0, q_r 70), (1, q_i x1)] [] m) (hrec_38 : ∀ {m : Mem} {x1 : Int32} {x2 : Int32}, rec_38 m x1 x2 = some m' → AW K 0 38 [(0, q_r 70), (1, q_i x1), (2, q_i x2)] [] m) {m : Mem} {x1 : Int32} {x2 : Int32} (hF : B_X8_prunes_90 N rec_30 rec_38 m x1 x2 = some m') : AW K 0 90 [(0, q_r 70), (1, q_i x1), (2, q_i x2)] [] m := by
  unfold B_X8_prunes_90 at hF
  refine aw_iconst hK (0) rfl dX8_prunes_90 ?_
  refine aw_sub [0, 1, 2] (lv' := [(0, q_r 70), (1, q_i x1), (2, q_i x2)]) rfl ?_
  exact bk_X8_prunes_91 hK hR hrec_30 hrec_38 hF
def S_X8_prunes_38 (N : Nat) (rec_30 : Mem → Int32 → Option Mem) (rec_38 : Mem → Int32 → Int32 → Option Mem) (m : Mem) (x1 : Int32) (x2 : Int32) : Option Mem :=
  if ((8 : Int32) * (m 70 35)) ≤ x2 then (
    rec_30 m x1
  ) else (
    gd (inb x2 (alen 94)) <|
    if (m 94 (ix x2)) = (-1 : Int32) then (
      B_X8_prunes_90 N rec_30 rec_38 m x1 x2
    ) else (
      gd (inb x2 (alen 94)) <|
      gd (inb (m 94 (ix x2)) (alen 98)) <|
      if (m 98 (ix (m 94 (ix x2)))) = (1 : Int32) then (
        gd (inb (x2 / (8 : Int32)) (alen 98)) <|
        if (m 98 (ix (x2 / (8 : Int32)))) = (0 : Int32) then (
          B_X8_prunes_91 N rec_30 rec_38 m x1 x2 (1 : Int32)
        ) else (
          B_X8_prunes_90 N rec_30 rec_38 m x1 x2
        )
      ) else (
        B_X8_prunes_90 N rec_30 rec_38 m x1 x2
      )
    )
  )
def L_X8_prunes_38 (N : Nat) (rec_30 : Mem → Int32 → Option Mem) : Nat → Mem → Int32 → Int32 → Option Mem
  | 0 => fun _ _ _ => none
  | f + 1 => S_X8_prunes_38 N rec_30 (L_X8_prunes_38 N rec_30 f)
set_option maxRecDepth 100000 in
set_option maxHeartbeats 4000000 in
theorem lp_X8_prunes_38 {N : Nat} {K : KT} {m' : Mem} {rec_30 : Mem → Int32 → Option Mem} (hK : KOK K cX8_prunes 4 RX8 wsX8_prunes 0 0 0) (hR : KRet K none none m') (hrec_30 : ∀ {m : Mem} {x1 : Int32}, rec_30 m x1 = some m' → AW K 0 30 [(0, q_r 70), (1, q_i x1)] [] m) : ∀ (f : Nat) {m : Mem} {x1 : Int32} {x2 : Int32}, L_X8_prunes_38 N rec_30 f m x1 x2 = some m' → AW K 0 38 [(0, q_r 70), (1, q_i x1), (2, q_i x2)] [] m := by
  intro f
  induction f with
  | zero => intro m x1 x2 hF; cases hF
  | succ f hrec_38 =>
    intro m x1 x2 hF
    have hF : S_X8_prunes_38 N rec_30 (L_X8_prunes_38 N rec_30 f) m x1 x2 = some m' := hF
    unfold S_X8_prunes_38 at hF
    refine aw_iload_n hK 2 rfl dX8_prunes_38 ?_
    refine aw_bipush hK (8) rfl dX8_prunes_39 ?_
    refine aw_aload_n hK 0 rfl dX8_prunes_41 ?_
    refine gf_8_35 hK rfl (List.mem_of_getElem? (i := 1) rfl) dX8_prunes_42 ?_
    refine aw_imul hK dX8_prunes_45 ?_
    refine aw_icmp_ge hK 138 rfl dX8_prunes_46 (fun hc => ?_) (fun hc => ?_)
    · have hF := if_t hF hc
      refine aw_goto hK 30 rfl dX8_prunes_138 ?_
      refine aw_sub [0, 1] (lv' := [(0, q_r 70), (1, q_i x1)]) rfl ?_
      exact hrec_30 hF
    · have hF := if_f hF hc
      refine aw_aload_n hK 0 rfl dX8_prunes_49 ?_
      refine gf_8_30 hK rfl (94) rfl (List.mem_of_getElem? (i := 4) rfl) dX8_prunes_50 ?_
      refine aw_iload_n hK 2 rfl dX8_prunes_53 ?_
      obtain ⟨g5, hF⟩ := gd_some hF
      refine aw_iald hK rfl g5 dX8_prunes_54 ?_
      refine aw_iconst hK (-1) rfl dX8_prunes_55 ?_
      refine aw_icmp_eq hK 90 rfl dX8_prunes_56 (fun hc => ?_) (fun hc => ?_)
      · have hF := if_t hF hc
        refine aw_sub [0, 1, 2] (lv' := [(0, q_r 70), (1, q_i x1), (2, q_i x2)]) rfl ?_
        exact bk_X8_prunes_90 hK hR hrec_30 hrec_38 hF
      · have hF := if_f hF hc
        refine aw_aload_n hK 0 rfl dX8_prunes_59 ?_
        refine gf_8_34 hK rfl (98) rfl (List.mem_of_getElem? (i := 2) rfl) dX8_prunes_60 ?_
        refine aw_aload_n hK 0 rfl dX8_prunes_63 ?_
        refine gf_8_30 hK rfl (94) rfl (List.mem_of_getElem? (i := 4) rfl) dX8_prunes_64 ?_
        refine aw_iload_n hK 2 rfl dX8_prunes_67 ?_
        obtain ⟨g6, hF⟩ := gd_some hF
        refine aw_iald hK rfl g6 dX8_prunes_68 ?_
        obtain ⟨g7, hF⟩ := gd_some hF
        refine aw_iald hK rfl g7 dX8_prunes_69 ?_
        refine aw_iconst hK (1) rfl dX8_prunes_70 ?_
        refine aw_icmp_ne hK 90 rfl dX8_prunes_71 (fun hc => ?_) (fun hc => ?_)
        · have hF := if_f hF hc
          refine aw_sub [0, 1, 2] (lv' := [(0, q_r 70), (1, q_i x1), (2, q_i x2)]) rfl ?_
          exact bk_X8_prunes_90 hK hR hrec_30 hrec_38 hF
        · have hF := if_t hF hc
          refine aw_aload_n hK 0 rfl dX8_prunes_74 ?_
          refine gf_8_34 hK rfl (98) rfl (List.mem_of_getElem? (i := 2) rfl) dX8_prunes_75 ?_
          refine aw_iload_n hK 2 rfl dX8_prunes_78 ?_
          refine aw_bipush hK (8) rfl dX8_prunes_79 ?_
          refine aw_idiv hK (by decide) dX8_prunes_81 ?_
          obtain ⟨g8, hF⟩ := gd_some hF
          refine aw_iald hK rfl g8 dX8_prunes_82 ?_
          refine aw_if_ne hK 90 rfl dX8_prunes_83 (fun hc => ?_) (fun hc => ?_)
          · have hF := if_f hF hc
            refine aw_sub [0, 1, 2] (lv' := [(0, q_r 70), (1, q_i x1), (2, q_i x2)]) rfl ?_
            exact bk_X8_prunes_90 hK hR hrec_30 hrec_38 hF
          · have hF := if_t hF hc
            refine aw_iconst hK (1) rfl dX8_prunes_86 ?_
            refine aw_goto hK 91 rfl dX8_prunes_87 ?_
            refine aw_sub [0, 1, 2] (lv' := [(0, q_r 70), (1, q_i x1), (2, q_i x2)]) rfl ?_
            exact bk_X8_prunes_91 hK hR hrec_30 hrec_38 hF
def S_X8_prunes_30 (N : Nat) (rec_30 : Mem → Int32 → Option Mem) (m : Mem) (x1 : Int32) : Option Mem :=
  if x1 = (0 : Int32) then (
    L_X8_prunes_143 N N m (0 : Int32)
  ) else (
    L_X8_prunes_38 N rec_30 N m (0 : Int32) (0 : Int32)
  )
def L_X8_prunes_30 (N : Nat) : Nat → Mem → Int32 → Option Mem
  | 0 => fun _ _ => none
  | f + 1 => S_X8_prunes_30 N (L_X8_prunes_30 N f)
set_option maxRecDepth 100000 in
set_option maxHeartbeats 4000000 in
theorem lp_X8_prunes_30 {N : Nat} {K : KT} {m' : Mem} (hK : KOK K cX8_prunes 4 RX8 wsX8_prunes 0 0 0) (hR : KRet K none none m') : ∀ (f : Nat) {m : Mem} {x1 : Int32}, L_X8_prunes_30 N f m x1 = some m' → AW K 0 30 [(0, q_r 70), (1, q_i x1)] [] m := by
  intro f
  induction f with
  | zero => intro m x1 hF; cases hF
  | succ f hrec_30 =>
    intro m x1 hF
    have hF : S_X8_prunes_30 N (L_X8_prunes_30 N f) m x1 = some m' := hF
    unfold S_X8_prunes_30 at hF
    refine aw_iload_n hK 1 rfl dX8_prunes_30 ?_
    refine aw_if_eq hK 141 rfl dX8_prunes_31 (fun hc => ?_) (fun hc => ?_)
    · have hF := if_t hF hc
      refine aw_iconst hK (0) rfl dX8_prunes_141 ?_
      refine aw_istore_n hK [(2, q_i (0 : Int32)), (0, q_r 70), (1, q_i x1)] (by decide) rfl dX8_prunes_142 ?_
      refine aw_sub [1, 0] (lv' := [(0, q_r 70), (2, q_i (0 : Int32))]) rfl ?_
      exact lp_X8_prunes_143 hK hR _ hF
    · have hF := if_f hF hc
      refine aw_iconst hK (0) rfl dX8_prunes_34 ?_
      refine aw_istore_n hK [(1, q_i (0 : Int32)), (0, q_r 70)] (by decide) rfl dX8_prunes_35 ?_
      refine aw_iconst hK (0) rfl dX8_prunes_36 ?_
      refine aw_istore_n hK [(2, q_i (0 : Int32)), (1, q_i (0 : Int32)), (0, q_r 70)] (by decide) rfl dX8_prunes_37 ?_
      refine aw_sub [2, 1, 0] (lv' := [(0, q_r 70), (1, q_i (0 : Int32)), (2, q_i (0 : Int32))]) rfl ?_
      exact lp_X8_prunes_38 hK hR hrec_30 _ hF
def S_X8_prunes_4 (N : Nat) (rec_4 : Mem → Int32 → Int32 → Option Mem) (m : Mem) (x1 : Int32) (x2 : Int32) : Option Mem :=
  if (m 70 35) ≤ x2 then (
    L_X8_prunes_30 N N m x1
  ) else (
    gd (inb x2 (alen 97)) <|
    gd (inb x2 (alen 98)) <|
    bnd (mup m 98 (ix x2) (m 97 (ix x2))) fun m3 =>
    bnd (x2 + (1 : Int32)) fun y4 =>
    rec_4 m3 x1 y4
  )
def L_X8_prunes_4 (N : Nat) : Nat → Mem → Int32 → Int32 → Option Mem
  | 0 => fun _ _ _ => none
  | f + 1 => S_X8_prunes_4 N (L_X8_prunes_4 N f)
set_option maxRecDepth 100000 in
set_option maxHeartbeats 4000000 in
theorem lp_X8_prunes_4 {N : Nat} {K : KT} {m' : Mem} (hK : KOK K cX8_prunes 4 RX8 wsX8_prunes 0 0 0) (hR : KRet K none none m') : ∀ (f : Nat) {m : Mem} {x1 : Int32} {x2 : Int32}, L_X8_prunes_4 N f m x1 x2 = some m' → AW K 0 4 [(0, q_r 70), (1, q_i x1), (2, q_i x2)] [] m := by
  intro f
  induction f with
  | zero => intro m x1 x2 hF; cases hF
  | succ f hrec_4 =>
    intro m x1 x2 hF
    have hF : S_X8_prunes_4 N (L_X8_prunes_4 N f) m x1 x2 = some m' := hF
    unfold S_X8_prunes_4 at hF
    refine aw_iload_n hK 2 rfl dX8_prunes_4 ?_
    refine aw_aload_n hK 0 rfl dX8_prunes_5 ?_
    refine gf_8_35 hK rfl (List.mem_of_getElem? (i := 1) rfl) dX8_prunes_6 ?_
    refine aw_icmp_ge hK 30 rfl dX8_prunes_9 (fun hc => ?_) (fun hc => ?_)
    · have hF := if_t hF hc
      refine aw_sub [0, 1] (lv' := [(0, q_r 70), (1, q_i x1)]) rfl ?_
      exact lp_X8_prunes_30 hK hR _ hF
    · have hF := if_f hF hc
      refine aw_aload_n hK 0 rfl dX8_prunes_12 ?_
      refine gf_8_34 hK rfl (98) rfl (List.mem_of_getElem? (i := 2) rfl) dX8_prunes_13 ?_
      refine aw_iload_n hK 2 rfl dX8_prunes_16 ?_
      refine aw_aload_n hK 0 rfl dX8_prunes_17 ?_
      refine gf_8_33 hK rfl (97) rfl (List.mem_of_getElem? (i := 3) rfl) dX8_prunes_18 ?_
      refine aw_iload_n hK 2 rfl dX8_prunes_21 ?_
      obtain ⟨g1, hF⟩ := gd_some hF
      refine aw_iald hK rfl g1 dX8_prunes_22 ?_
      obtain ⟨g2, hF⟩ := gd_some hF
      refine aw_iast hK rfl g2 dX8_prunes_23 ?_
      obtain ⟨m3, hm3, hF⟩ := bnd_some hF
      refine aw_mm hm3 ?_
      obtain ⟨y4, hy4, hF⟩ := bnd_some hF
      refine aw_iinc hK (cz := 1) 2 [(2, q_i y4), (0, q_r 70), (1, q_i x1)] (by decide) rfl rfl hy4 rfl dX8_prunes_24 ?_
      refine aw_goto hK 4 rfl dX8_prunes_27 ?_
      refine aw_sub [1, 2, 0] (lv' := [(0, q_r 70), (1, q_i x1), (2, q_i y4)]) rfl ?_
      exact hrec_4 hF
def F_X8_prunes (N : Nat) (m : Mem) : Option Mem :=
  L_X8_prunes_4 N N m (1 : Int32) (0 : Int32)
set_option maxRecDepth 100000 in
set_option maxHeartbeats 4000000 in
theorem tr_X8_prunes {N : Nat} {m m' : Mem} (hF : F_X8_prunes N m = some m') : Tr yX8_prunes wsX8_prunes 0 0 [q_r 70] m none m' := by
  refine tr_of (bytes := cX8_prunes) (maxL := 4) (ret := none) (by decide) rfl (Nat.le_of_ble_eq_true rfl) (fun K hK hR => ?_)
  have hK : KOK K cX8_prunes 4 RX8 wsX8_prunes 0 0 0 := hK
  show AW K 0 0 [(0, q_r 70)] [] m
  unfold F_X8_prunes at hF
  refine aw_iconst hK (1) rfl dX8_prunes_0 ?_
  refine aw_istore_n hK [(1, q_i (1 : Int32)), (0, q_r 70)] (by decide) rfl dX8_prunes_1 ?_
  refine aw_iconst hK (0) rfl dX8_prunes_2 ?_
  refine aw_istore_n hK [(2, q_i (0 : Int32)), (1, q_i (1 : Int32)), (0, q_r 70)] (by decide) rfl dX8_prunes_3 ?_
  refine aw_sub [2, 1, 0] (lv' := [(0, q_r 70), (1, q_i (1 : Int32)), (2, q_i (0 : Int32))]) rfl ?_
  exact lp_X8_prunes_4 hK hR _ hF
def B_X8_makesLeast_244 (N : Nat) (rec_94 : Mem → Int32 → Int32 → Int32 → Int32 → Option (Int32 × Mem)) (m : Mem) (x1 : Int32) (x2 : Int32) (x3 : Int32) (x6 : Int32) : Option (Int32 × Mem) :=
  bnd (x6 + (1 : Int32)) fun y42 =>
  rec_94 m x1 x2 x3 y42
set_option maxRecDepth 100000 in
set_option maxHeartbeats 4000000 in
theorem bk_X8_makesLeast_244 {N : Nat} {K : KT} {m' : Mem} {rec_94 : Mem → Int32 → Int32 → Int32 → Int32 → Option (Int32 × Mem)} {r : Int32} (hK : KOK K cX8_makesLeast 9 RX8 wsX8_makesLeast 3 0 78) (hR : KRet K (some .boolean) (some r) m') (hrec_94 : ∀ {m : Mem} {x1 : Int32} {x2 : Int32} {x3 : Int32} {x6 : Int32}, rec_94 m x1 x2 x3 x6 = some (r, m') → AW K 0 94 [(0, q_r 70), (1, q_i x1), (2, q_i x2), (3, q_i x3), (6, q_i x6)] [] m) {m : Mem} {x1 : Int32} {x2 : Int32} {x3 : Int32} {x6 : Int32} (hF : B_X8_makesLeast_244 N rec_94 m x1 x2 x3 x6 = some (r, m')) : AW K 0 244 [(0, q_r 70), (1, q_i x1), (2, q_i x2), (3, q_i x3), (6, q_i x6)] [] m := by
  unfold B_X8_makesLeast_244 at hF
  obtain ⟨y42, hy42, hF⟩ := bnd_some hF
  refine aw_iinc hK (cz := 1) 4 [(6, q_i y42), (0, q_r 70), (1, q_i x1), (2, q_i x2), (3, q_i x3)] (by decide) rfl rfl hy42 rfl dX8_makesLeast_244 ?_
  refine aw_goto hK 94 rfl dX8_makesLeast_247 ?_
  refine aw_sub [1, 2, 3, 4, 0] (lv' := [(0, q_r 70), (1, q_i x1), (2, q_i x2), (3, q_i x3), (6, q_i y42)]) rfl ?_
  exact hrec_94 hF
def B_X8_makesLeast_238 (N : Nat) (rec_94 : Mem → Int32 → Int32 → Int32 → Int32 → Option (Int32 × Mem)) (rec_175 : Mem → Int32 → Int32 → Int32 → Int32 → Int32 → Int32 → Option (Int32 × Mem)) (m : Mem) (x1 : Int32) (x2 : Int32) (x3 : Int32) (x6 : Int32) (x7 : Int32) (x8 : Int32) : Option (Int32 × Mem) :=
  bnd (x8 + (1 : Int32)) fun y41 =>
  rec_175 m x1 x2 x3 x6 x7 y41
set_option maxRecDepth 100000 in
set_option maxHeartbeats 4000000 in
theorem bk_X8_makesLeast_238 {N : Nat} {K : KT} {m' : Mem} {rec_94 : Mem → Int32 → Int32 → Int32 → Int32 → Option (Int32 × Mem)} {rec_175 : Mem → Int32 → Int32 → Int32 → Int32 → Int32 → Int32 → Option (Int32 × Mem)} {r : Int32} (hK : KOK K cX8_makesLeast 9 RX8 wsX8_makesLeast 3 0 78) (hR : KRet K (some .boolean) (some r) m') (hrec_94 : ∀ {m : Mem} {x1 : Int32} {x2 : Int32} {x3 : Int32} {x6 : Int32}, rec_94 m x1 x2 x3 x6 = some (r, m') → AW K 0 94 [(0, q_r 70), (1, q_i x1), (2, q_i x2), (3, q_i x3), (6, q_i x6)] [] m) (hrec_175 : ∀ {m : Mem} {x1 : Int32} {x2 : Int32} {x3 : Int32} {x6 : Int32} {x7 : Int32} {x8 : Int32}, rec_175 m x1 x2 x3 x6 x7 x8 = some (r, m') → AW K 0 175 [(0, q_r 70), (1, q_i x1), (2, q_i x2), (3, q_i x3), (6, q_i x6), (7, q_i x7), (8, q_i x8)] [] m) {m : Mem} {x1 : Int32} {x2 : Int32} {x3 : Int32} {x6 : Int32} {x7 : Int32} {x8 : Int32} (hF : B_X8_makesLeast_238 N rec_94 rec_175 m x1 x2 x3 x6 x7 x8 = some (r, m')) : AW K 0 238 [(0, q_r 70), (1, q_i x1), (2, q_i x2), (3, q_i x3), (6, q_i x6), (7, q_i x7), (8, q_i x8)] [] m := by
  unfold B_X8_makesLeast_238 at hF
  obtain ⟨y41, hy41, hF⟩ := bnd_some hF
  refine aw_iinc hK (cz := 1) 6 [(8, q_i y41), (0, q_r 70), (1, q_i x1), (2, q_i x2), (3, q_i x3), (6, q_i x6), (7, q_i x7)] (by decide) rfl rfl hy41 rfl dX8_makesLeast_238 ?_
  refine aw_goto hK 175 rfl dX8_makesLeast_241 ?_
  refine aw_sub [1, 2, 3, 4, 5, 6, 0] (lv' := [(0, q_r 70), (1, q_i x1), (2, q_i x2), (3, q_i x3), (6, q_i x6), (7, q_i x7), (8, q_i y41)]) rfl ?_
  exact hrec_175 hF
def S_X8_makesLeast_175 (N : Nat) (rec_94 : Mem → Int32 → Int32 → Int32 → Int32 → Option (Int32 × Mem)) (rec_175 : Mem → Int32 → Int32 → Int32 → Int32 → Int32 → Int32 → Option (Int32 × Mem)) (m : Mem) (x1 : Int32) (x2 : Int32) (x3 : Int32) (x6 : Int32) (x7 : Int32) (x8 : Int32) : Option (Int32 × Mem) :=
  if (8 : Int32) ≤ x8 then (
    B_X8_makesLeast_244 N rec_94 m x1 x2 x3 x6
  ) else (
    if x7 = (0 : Int32) then (
      B_X8_makesLeast_244 N rec_94 m x1 x2 x3 x6
    ) else (
      gd (inb (((8 : Int32) * x6) + x8) (alen 94)) <|
      if (m 94 (ix (((8 : Int32) * x6) + x8))) = (-1 : Int32) then (
        B_X8_makesLeast_238 N rec_94 rec_175 m x1 x2 x3 x6 x7 x8
      ) else (
        gd (inb x6 (alen 97)) <|
        gd (inb (((8 : Int32) * x6) + x8) (alen 94)) <|
        gd (inb (m 94 (ix (((8 : Int32) * x6) + x8))) (alen 97)) <|
        calv (F_X8_adds N m (m 97 (ix x6)) x8 x8 (0 : Int32) (m 97 (ix (m 94 (ix (((8 : Int32) * x6) + x8)))))) fun m40 =>
        B_X8_makesLeast_238 N rec_94 rec_175 m40 x1 x2 x3 x6 x7 x8
      )
    )
  )
def L_X8_makesLeast_175 (N : Nat) (rec_94 : Mem → Int32 → Int32 → Int32 → Int32 → Option (Int32 × Mem)) : Nat → Mem → Int32 → Int32 → Int32 → Int32 → Int32 → Int32 → Option (Int32 × Mem)
  | 0 => fun _ _ _ _ _ _ _ => none
  | f + 1 => S_X8_makesLeast_175 N rec_94 (L_X8_makesLeast_175 N rec_94 f)
set_option maxRecDepth 100000 in
set_option maxHeartbeats 4000000 in
theorem lp_X8_makesLeast_175 {N : Nat} {K : KT} {m' : Mem} {rec_94 : Mem → Int32 → Int32 → Int32 → Int32 → Option (Int32 × Mem)} {r : Int32} (hK : KOK K cX8_makesLeast 9 RX8 wsX8_makesLeast 3 0 78) (hR : KRet K (some .boolean) (some r) m') (hrec_94 : ∀ {m : Mem} {x1 : Int32} {x2 : Int32} {x3 : Int32} {x6 : Int32}, rec_94 m x1 x2 x3 x6 = some (r, m') → AW K 0 94 [(0, q_r 70), (1, q_i x1), (2, q_i x2), (3, q_i x3), (6, q_i x6)] [] m) : ∀ (f : Nat) {m : Mem} {x1 : Int32} {x2 : Int32} {x3 : Int32} {x6 : Int32} {x7 : Int32} {x8 : Int32}, L_X8_makesLeast_175 N rec_94 f m x1 x2 x3 x6 x7 x8 = some (r, m') → AW K 0 175 [(0, q_r 70), (1, q_i x1), (2, q_i x2), (3, q_i x3), (6, q_i x6), (7, q_i x7), (8, q_i x8)] [] m := by
  intro f
  induction f with
  | zero => intro m x1 x2 x3 x6 x7 x8 hF; cases hF
  | succ f hrec_175 =>
    intro m x1 x2 x3 x6 x7 x8 hF
    have hF : S_X8_makesLeast_175 N rec_94 (L_X8_makesLeast_175 N rec_94 f) m x1 x2 x3 x6 x7 x8 = some (r, m') := hF
    unfold S_X8_makesLeast_175 at hF
    refine aw_iload hK 6 rfl dX8_makesLeast_175 ?_
    refine aw_bipush hK (8) rfl dX8_makesLeast_177 ?_
    refine aw_icmp_ge hK 244 rfl dX8_makesLeast_179 (fun hc => ?_) (fun hc => ?_)
    · have hF := if_t hF hc
      refine aw_sub [0, 1, 2, 3, 4] (lv' := [(0, q_r 70), (1, q_i x1), (2, q_i x2), (3, q_i x3), (6, q_i x6)]) rfl ?_
      exact bk_X8_makesLeast_244 hK hR hrec_94 hF
    · have hF := if_f hF hc
      refine aw_iload hK 5 rfl dX8_makesLeast_182 ?_
      refine aw_if_eq hK 244 rfl dX8_makesLeast_184 (fun hc => ?_) (fun hc => ?_)
      · have hF := if_t hF hc
        refine aw_sub [0, 1, 2, 3, 4] (lv' := [(0, q_r 70), (1, q_i x1), (2, q_i x2), (3, q_i x3), (6, q_i x6)]) rfl ?_
        exact bk_X8_makesLeast_244 hK hR hrec_94 hF
      · have hF := if_f hF hc
        refine aw_aload_n hK 0 rfl dX8_makesLeast_187 ?_
        refine gf_8_30 hK rfl (94) rfl (List.mem_of_getElem? (i := 4) rfl) dX8_makesLeast_188 ?_
        refine aw_bipush hK (8) rfl dX8_makesLeast_191 ?_
        refine aw_iload hK 4 rfl dX8_makesLeast_193 ?_
        refine aw_imul hK dX8_makesLeast_195 ?_
        refine aw_iload hK 6 rfl dX8_makesLeast_196 ?_
        refine aw_iadd hK dX8_makesLeast_198 ?_
        obtain ⟨g35, hF⟩ := gd_some hF
        refine aw_iald hK rfl g35 dX8_makesLeast_199 ?_
        refine aw_iconst hK (-1) rfl dX8_makesLeast_200 ?_
        refine aw_icmp_eq hK 238 rfl dX8_makesLeast_201 (fun hc => ?_) (fun hc => ?_)
        · have hF := if_t hF hc
          refine aw_sub [0, 1, 2, 3, 4, 5, 6] (lv' := [(0, q_r 70), (1, q_i x1), (2, q_i x2), (3, q_i x3), (6, q_i x6), (7, q_i x7), (8, q_i x8)]) rfl ?_
          exact bk_X8_makesLeast_238 hK hR hrec_94 hrec_175 hF
        · have hF := if_f hF hc
          refine aw_aload_n hK 0 rfl dX8_makesLeast_204 ?_
          refine aw_aload_n hK 0 rfl dX8_makesLeast_205 ?_
          refine gf_8_33 hK rfl (97) rfl (List.mem_of_getElem? (i := 2) rfl) dX8_makesLeast_206 ?_
          refine aw_iload hK 4 rfl dX8_makesLeast_209 ?_
          obtain ⟨g36, hF⟩ := gd_some hF
          refine aw_iald hK rfl g36 dX8_makesLeast_211 ?_
          refine aw_iload hK 6 rfl dX8_makesLeast_212 ?_
          refine aw_iload hK 6 rfl dX8_makesLeast_214 ?_
          refine aw_iconst hK (0) rfl dX8_makesLeast_216 ?_
          refine aw_aload_n hK 0 rfl dX8_makesLeast_217 ?_
          refine gf_8_33 hK rfl (97) rfl (List.mem_of_getElem? (i := 2) rfl) dX8_makesLeast_218 ?_
          refine aw_aload_n hK 0 rfl dX8_makesLeast_221 ?_
          refine gf_8_30 hK rfl (94) rfl (List.mem_of_getElem? (i := 4) rfl) dX8_makesLeast_222 ?_
          refine aw_bipush hK (8) rfl dX8_makesLeast_225 ?_
          refine aw_iload hK 4 rfl dX8_makesLeast_227 ?_
          refine aw_imul hK dX8_makesLeast_229 ?_
          refine aw_iload hK 6 rfl dX8_makesLeast_230 ?_
          refine aw_iadd hK dX8_makesLeast_232 ?_
          obtain ⟨g37, hF⟩ := gd_some hF
          refine aw_iald hK rfl g37 dX8_makesLeast_233 ?_
          obtain ⟨g38, hF⟩ := gd_some hF
          refine aw_iald hK rfl g38 dX8_makesLeast_234 ?_
          obtain ⟨m40, h39, hF⟩ := calv_some hF
          refine aw_cv hK 8 (as := [q_i (m 97 (ix x6)), q_i x8, q_i x8, q_i (0 : Int32), q_i (m 97 (ix (m 94 (ix (((8 : Int32) * x6) + x8)))))]) (tr_X8_adds h39) gX8_makesLeast_X8_adds rfl rfl rfl (by decide) (na := 5) (by decide +kernel) rfl ⟨by decide, by decide⟩ (Nat.zero_le _) (Nat.le_of_ble_eq_true rfl) dX8_makesLeast_235 ?_
          refine aw_sub [0, 1, 2, 3, 4, 5, 6] (lv' := [(0, q_r 70), (1, q_i x1), (2, q_i x2), (3, q_i x3), (6, q_i x6), (7, q_i x7), (8, q_i x8)]) rfl ?_
          exact bk_X8_makesLeast_238 hK hR hrec_94 hrec_175 hF
def B_X8_makesLeast_164 (N : Nat) (rec_94 : Mem → Int32 → Int32 → Int32 → Int32 → Option (Int32 × Mem)) (rec_130 : Mem → Int32 → Int32 → Int32 → Int32 → Int32 → Int32 → Option (Int32 × Mem)) (m : Mem) (x1 : Int32) (x2 : Int32) (x3 : Int32) (x6 : Int32) (x8 : Int32) (s0 : Int32) : Option (Int32 × Mem) :=
  bnd (x8 + (1 : Int32)) fun y34 =>
  rec_130 m x1 x2 x3 x6 s0 y34
set_option maxRecDepth 100000 in
set_option maxHeartbeats 4000000 in
theorem bk_X8_makesLeast_164 {N : Nat} {K : KT} {m' : Mem} {rec_94 : Mem → Int32 → Int32 → Int32 → Int32 → Option (Int32 × Mem)} {rec_130 : Mem → Int32 → Int32 → Int32 → Int32 → Int32 → Int32 → Option (Int32 × Mem)} {r : Int32} (hK : KOK K cX8_makesLeast 9 RX8 wsX8_makesLeast 3 0 78) (hR : KRet K (some .boolean) (some r) m') (hrec_94 : ∀ {m : Mem} {x1 : Int32} {x2 : Int32} {x3 : Int32} {x6 : Int32}, rec_94 m x1 x2 x3 x6 = some (r, m') → AW K 0 94 [(0, q_r 70), (1, q_i x1), (2, q_i x2), (3, q_i x3), (6, q_i x6)] [] m) (hrec_130 : ∀ {m : Mem} {x1 : Int32} {x2 : Int32} {x3 : Int32} {x6 : Int32} {x7 : Int32} {x8 : Int32}, rec_130 m x1 x2 x3 x6 x7 x8 = some (r, m') → AW K 0 130 [(0, q_r 70), (1, q_i x1), (2, q_i x2), (3, q_i x3), (6, q_i x6), (7, q_i x7), (8, q_i x8)] [] m) {m : Mem} {x1 : Int32} {x2 : Int32} {x3 : Int32} {x6 : Int32} {x8 : Int32} {s0 : Int32} (hF : B_X8_makesLeast_164 N rec_94 rec_130 m x1 x2 x3 x6 x8 s0 = some (r, m')) : AW K 0 164 [(0, q_r 70), (1, q_i x1), (2, q_i x2), (3, q_i x3), (6, q_i x6), (8, q_i x8)] [q_i s0] m := by
  unfold B_X8_makesLeast_164 at hF
  refine aw_istore hK [(7, q_i s0), (0, q_r 70), (1, q_i x1), (2, q_i x2), (3, q_i x3), (6, q_i x6), (8, q_i x8)] (by decide) rfl dX8_makesLeast_164 ?_
  obtain ⟨y34, hy34, hF⟩ := bnd_some hF
  refine aw_iinc hK (cz := 1) 6 [(8, q_i y34), (7, q_i s0), (0, q_r 70), (1, q_i x1), (2, q_i x2), (3, q_i x3), (6, q_i x6)] (by decide) rfl rfl hy34 rfl dX8_makesLeast_166 ?_
  refine aw_goto hK 130 rfl dX8_makesLeast_169 ?_
  refine aw_sub [2, 3, 4, 5, 6, 1, 0] (lv' := [(0, q_r 70), (1, q_i x1), (2, q_i x2), (3, q_i x3), (6, q_i x6), (7, q_i s0), (8, q_i y34)]) rfl ?_
  exact hrec_130 hF
def B_X8_makesLeast_163 (N : Nat) (rec_94 : Mem → Int32 → Int32 → Int32 → Int32 → Option (Int32 × Mem)) (rec_130 : Mem → Int32 → Int32 → Int32 → Int32 → Int32 → Int32 → Option (Int32 × Mem)) (m : Mem) (x1 : Int32) (x2 : Int32) (x3 : Int32) (x6 : Int32) (x8 : Int32) : Option (Int32 × Mem) :=
  B_X8_makesLeast_164 N rec_94 rec_130 m x1 x2 x3 x6 x8 (0 : Int32)
set_option maxRecDepth 100000 in
set_option maxHeartbeats 4000000 in
theorem bk_X8_makesLeast_163 {N : Nat} {K : KT} {m' : Mem} {rec_94 : Mem → Int32 → Int32 → Int32 → Int32 → Option (Int32 × Mem)} {rec_130 : Mem → Int32 → Int32 → Int32 → Int32 → Int32 → Int32 → Option (Int32 × Mem)} {r : Int32} (hK : KOK K cX8_makesLeast 9 RX8 wsX8_makesLeast 3 0 78) (hR : KRet K (some .boolean) (some r) m') (hrec_94 : ∀ {m : Mem} {x1 : Int32} {x2 : Int32} {x3 : Int32} {x6 : Int32}, rec_94 m x1 x2 x3 x6 = some (r, m') → AW K 0 94 [(0, q_r 70), (1, q_i x1), (2, q_i x2), (3, q_i x3), (6, q_i x6)] [] m) (hrec_130 : ∀ {m : Mem} {x1 : Int32} {x2 : Int32} {x3 : Int32} {x6 : Int32} {x7 : Int32} {x8 : Int32}, rec_130 m x1 x2 x3 x6 x7 x8 = some (r, m') → AW K 0 130 [(0, q_r 70), (1, q_i x1), (2, q_i x2), (3, q_i x3), (6, q_i x6), (7, q_i x7), (8, q_i x8)] [] m) {m : Mem} {x1 : Int32} {x2 : Int32} {x3 : Int32} {x6 : Int32} {x8 : Int32} (hF : B_X8_makesLeast_163 N rec_94 rec_130 m x1 x2 x3 x6 x8 = some (r, m')) : AW K 0 163 [(0, q_r 70), (1, q_i x1), (2, q_i x2), (3, q_i x3), (6, q_i x6), (8, q_i x8)] [] m := by
  unfold B_X8_makesLeast_163 at hF
  refine aw_iconst hK (0) rfl dX8_makesLeast_163 ?_
  refine aw_sub [0, 1, 2, 3, 4, 5] (lv' := [(0, q_r 70), (1, q_i x1), (2, q_i x2), (3, q_i x3), (6, q_i x6), (8, q_i x8)]) rfl ?_
  exact bk_X8_makesLeast_164 hK hR hrec_94 hrec_130 hF
def S_X8_makesLeast_130 (N : Nat) (rec_94 : Mem → Int32 → Int32 → Int32 → Int32 → Option (Int32 × Mem)) (rec_130 : Mem → Int32 → Int32 → Int32 → Int32 → Int32 → Int32 → Option (Int32 × Mem)) (m : Mem) (x1 : Int32) (x2 : Int32) (x3 : Int32) (x6 : Int32) (x7 : Int32) (x8 : Int32) : Option (Int32 × Mem) :=
  if x6 ≤ x8 then (
    L_X8_makesLeast_175 N rec_94 N m x1 x2 x3 x6 x7 (0 : Int32)
  ) else (
    if x7 = (0 : Int32) then (
      B_X8_makesLeast_163 N rec_94 rec_130 m x1 x2 x3 x6 x8
    ) else (
      gd (inb x8 (alen 97)) <|
      gd (inb x6 (alen 97)) <|
      if (m 97 (ix x8)) = (m 97 (ix x6)) then (
        B_X8_makesLeast_163 N rec_94 rec_130 m x1 x2 x3 x6 x8
      ) else (
        B_X8_makesLeast_164 N rec_94 rec_130 m x1 x2 x3 x6 x8 (1 : Int32)
      )
    )
  )
def L_X8_makesLeast_130 (N : Nat) (rec_94 : Mem → Int32 → Int32 → Int32 → Int32 → Option (Int32 × Mem)) : Nat → Mem → Int32 → Int32 → Int32 → Int32 → Int32 → Int32 → Option (Int32 × Mem)
  | 0 => fun _ _ _ _ _ _ _ => none
  | f + 1 => S_X8_makesLeast_130 N rec_94 (L_X8_makesLeast_130 N rec_94 f)
set_option maxRecDepth 100000 in
set_option maxHeartbeats 4000000 in
theorem lp_X8_makesLeast_130 {N : Nat} {K : KT} {m' : Mem} {rec_94 : Mem → Int32 → Int32 → Int32 → Int32 → Option (Int32 × Mem)} {r : Int32} (hK : KOK K cX8_makesLeast 9 RX8 wsX8_makesLeast 3 0 78) (hR : KRet K (some .boolean) (some r) m') (hrec_94 : ∀ {m : Mem} {x1 : Int32} {x2 : Int32} {x3 : Int32} {x6 : Int32}, rec_94 m x1 x2 x3 x6 = some (r, m') → AW K 0 94 [(0, q_r 70), (1, q_i x1), (2, q_i x2), (3, q_i x3), (6, q_i x6)] [] m) : ∀ (f : Nat) {m : Mem} {x1 : Int32} {x2 : Int32} {x3 : Int32} {x6 : Int32} {x7 : Int32} {x8 : Int32}, L_X8_makesLeast_130 N rec_94 f m x1 x2 x3 x6 x7 x8 = some (r, m') → AW K 0 130 [(0, q_r 70), (1, q_i x1), (2, q_i x2), (3, q_i x3), (6, q_i x6), (7, q_i x7), (8, q_i x8)] [] m := by
  intro f
  induction f with
  | zero => intro m x1 x2 x3 x6 x7 x8 hF; cases hF
  | succ f hrec_130 =>
    intro m x1 x2 x3 x6 x7 x8 hF
    have hF : S_X8_makesLeast_130 N rec_94 (L_X8_makesLeast_130 N rec_94 f) m x1 x2 x3 x6 x7 x8 = some (r, m') := hF
    unfold S_X8_makesLeast_130 at hF
    refine aw_iload hK 6 rfl dX8_makesLeast_130 ?_
    refine aw_iload hK 4 rfl dX8_makesLeast_132 ?_
    refine aw_icmp_ge hK 172 rfl dX8_makesLeast_134 (fun hc => ?_) (fun hc => ?_)
    · have hF := if_t hF hc
      refine aw_iconst hK (0) rfl dX8_makesLeast_172 ?_
      refine aw_istore hK [(8, q_i (0 : Int32)), (0, q_r 70), (1, q_i x1), (2, q_i x2), (3, q_i x3), (6, q_i x6), (7, q_i x7)] (by decide) rfl dX8_makesLeast_173 ?_
      refine aw_sub [1, 2, 3, 4, 5, 6, 0] (lv' := [(0, q_r 70), (1, q_i x1), (2, q_i x2), (3, q_i x3), (6, q_i x6), (7, q_i x7), (8, q_i (0 : Int32))]) rfl ?_
      exact lp_X8_makesLeast_175 hK hR hrec_94 _ hF
    · have hF := if_f hF hc
      refine aw_iload hK 5 rfl dX8_makesLeast_137 ?_
      refine aw_if_eq hK 163 rfl dX8_makesLeast_139 (fun hc => ?_) (fun hc => ?_)
      · have hF := if_t hF hc
        refine aw_sub [0, 1, 2, 3, 4, 6] (lv' := [(0, q_r 70), (1, q_i x1), (2, q_i x2), (3, q_i x3), (6, q_i x6), (8, q_i x8)]) rfl ?_
        exact bk_X8_makesLeast_163 hK hR hrec_94 hrec_130 hF
      · have hF := if_f hF hc
        refine aw_aload_n hK 0 rfl dX8_makesLeast_142 ?_
        refine gf_8_33 hK rfl (97) rfl (List.mem_of_getElem? (i := 2) rfl) dX8_makesLeast_143 ?_
        refine aw_iload hK 6 rfl dX8_makesLeast_146 ?_
        obtain ⟨g32, hF⟩ := gd_some hF
        refine aw_iald hK rfl g32 dX8_makesLeast_148 ?_
        refine aw_aload_n hK 0 rfl dX8_makesLeast_149 ?_
        refine gf_8_33 hK rfl (97) rfl (List.mem_of_getElem? (i := 2) rfl) dX8_makesLeast_150 ?_
        refine aw_iload hK 4 rfl dX8_makesLeast_153 ?_
        obtain ⟨g33, hF⟩ := gd_some hF
        refine aw_iald hK rfl g33 dX8_makesLeast_155 ?_
        refine aw_icmp_eq hK 163 rfl dX8_makesLeast_156 (fun hc => ?_) (fun hc => ?_)
        · have hF := if_t hF hc
          refine aw_sub [0, 1, 2, 3, 4, 6] (lv' := [(0, q_r 70), (1, q_i x1), (2, q_i x2), (3, q_i x3), (6, q_i x6), (8, q_i x8)]) rfl ?_
          exact bk_X8_makesLeast_163 hK hR hrec_94 hrec_130 hF
        · have hF := if_f hF hc
          refine aw_iconst hK (1) rfl dX8_makesLeast_159 ?_
          refine aw_goto hK 164 rfl dX8_makesLeast_160 ?_
          refine aw_sub [0, 1, 2, 3, 4, 6] (lv' := [(0, q_r 70), (1, q_i x1), (2, q_i x2), (3, q_i x3), (6, q_i x6), (8, q_i x8)]) rfl ?_
          exact bk_X8_makesLeast_164 hK hR hrec_94 hrec_130 hF
def S_X8_makesLeast_94 (N : Nat) (rec_94 : Mem → Int32 → Int32 → Int32 → Int32 → Option (Int32 × Mem)) (m : Mem) (x1 : Int32) (x2 : Int32) (x3 : Int32) (x6 : Int32) : Option (Int32 × Mem) :=
  if (m 70 35) ≤ x6 then (
    gd (inb (0 : Int32) (alen 97)) <|
    cal (F_X8_trims N m (m 97 (ix (0 : Int32)))) fun r23 m22 =>
    gd (isb r23) <|
    some (r23, m22)
  ) else (
    gd (inb x6 (alen 97)) <|
    cal (F_X8_isAccepted N m x6 x1 x2 x3) fun r28 m27 =>
    gd (inb (m 97 (ix x6)) (alen 82)) <|
    gd (isb r28) <|
    bnd (mup m27 82 (ix (m 97 (ix x6))) r28) fun m31 =>
    L_X8_makesLeast_130 N rec_94 N m31 x1 x2 x3 x6 (1 : Int32) (0 : Int32)
  )
def L_X8_makesLeast_94 (N : Nat) : Nat → Mem → Int32 → Int32 → Int32 → Int32 → Option (Int32 × Mem)
  | 0 => fun _ _ _ _ _ => none
  | f + 1 => S_X8_makesLeast_94 N (L_X8_makesLeast_94 N f)
set_option maxRecDepth 100000 in
set_option maxHeartbeats 4000000 in
theorem lp_X8_makesLeast_94 {N : Nat} {K : KT} {m' : Mem} {r : Int32} (hK : KOK K cX8_makesLeast 9 RX8 wsX8_makesLeast 3 0 78) (hR : KRet K (some .boolean) (some r) m') : ∀ (f : Nat) {m : Mem} {x1 : Int32} {x2 : Int32} {x3 : Int32} {x6 : Int32}, L_X8_makesLeast_94 N f m x1 x2 x3 x6 = some (r, m') → AW K 0 94 [(0, q_r 70), (1, q_i x1), (2, q_i x2), (3, q_i x3), (6, q_i x6)] [] m := by
  intro f
  induction f with
  | zero => intro m x1 x2 x3 x6 hF; cases hF
  | succ f hrec_94 =>
    intro m x1 x2 x3 x6 hF
    have hF : S_X8_makesLeast_94 N (L_X8_makesLeast_94 N f) m x1 x2 x3 x6 = some (r, m') := hF
    unfold S_X8_makesLeast_94 at hF
    refine aw_iload hK 4 rfl dX8_makesLeast_94 ?_
    refine aw_aload_n hK 0 rfl dX8_makesLeast_96 ?_
    refine gf_8_35 hK rfl (List.mem_of_getElem? (i := 1) rfl) dX8_makesLeast_97 ?_
    refine aw_icmp_ge hK 250 rfl dX8_makesLeast_100 (fun hc => ?_) (fun hc => ?_)
    · have hF := if_t hF hc
      refine aw_aload_n hK 0 rfl dX8_makesLeast_250 ?_
      refine aw_aload_n hK 0 rfl dX8_makesLeast_251 ?_
      refine gf_8_33 hK rfl (97) rfl (List.mem_of_getElem? (i := 2) rfl) dX8_makesLeast_252 ?_
      refine aw_iconst hK (0) rfl dX8_makesLeast_255 ?_
      obtain ⟨g20, hF⟩ := gd_some hF
      refine aw_iald hK rfl g20 dX8_makesLeast_256 ?_
      obtain ⟨r23, m22, h21, hF⟩ := cal_some hF
      refine aw_cv hK 8 (as := [q_i (m 97 (ix (0 : Int32)))]) (tr_X8_trims h21) gX8_makesLeast_X8_trims rfl rfl rfl (by decide) (na := 1) (by decide +kernel) rfl ⟨by decide, by decide⟩ (Nat.zero_le _) (Nat.le_of_ble_eq_true rfl) dX8_makesLeast_257 ?_
      obtain ⟨g24, hF⟩ := gd_some hF
      obtain ⟨rfl, rfl⟩ := so_inj hF
      exact aw_iret hK hR (isb_narrow g24) dX8_makesLeast_260
    · have hF := if_f hF hc
      refine aw_aload_n hK 0 rfl dX8_makesLeast_103 ?_
      refine gf_8_15 hK rfl (82) rfl (List.mem_of_getElem? (i := 3) rfl) dX8_makesLeast_104 ?_
      refine aw_aload_n hK 0 rfl dX8_makesLeast_107 ?_
      refine gf_8_33 hK rfl (97) rfl (List.mem_of_getElem? (i := 2) rfl) dX8_makesLeast_108 ?_
      refine aw_iload hK 4 rfl dX8_makesLeast_111 ?_
      obtain ⟨g25, hF⟩ := gd_some hF
      refine aw_iald hK rfl g25 dX8_makesLeast_113 ?_
      refine aw_aload_n hK 0 rfl dX8_makesLeast_114 ?_
      refine aw_iload hK 4 rfl dX8_makesLeast_115 ?_
      refine aw_iload_n hK 1 rfl dX8_makesLeast_117 ?_
      refine aw_iload_n hK 2 rfl dX8_makesLeast_118 ?_
      refine aw_iload_n hK 3 rfl dX8_makesLeast_119 ?_
      obtain ⟨r28, m27, h26, hF⟩ := cal_some hF
      refine aw_cv hK 8 (as := [q_i x6, q_i x1, q_i x2, q_i x3]) (tr_X8_isAccepted h26) gX8_makesLeast_X8_isAccepted rfl rfl rfl (by decide) (na := 4) (by decide +kernel) rfl ⟨by decide, by decide⟩ (Nat.zero_le _) (Nat.le_of_ble_eq_true rfl) dX8_makesLeast_120 ?_
      obtain ⟨g29, hF⟩ := gd_some hF
      obtain ⟨g30, hF⟩ := gd_some hF
      refine aw_zast hK rfl g29 g30 dX8_makesLeast_123 ?_
      obtain ⟨m31, hm31, hF⟩ := bnd_some hF
      refine aw_mm hm31 ?_
      refine aw_iconst hK (1) rfl dX8_makesLeast_124 ?_
      refine aw_istore hK [(7, q_i (1 : Int32)), (0, q_r 70), (1, q_i x1), (2, q_i x2), (3, q_i x3), (6, q_i x6)] (by decide) rfl dX8_makesLeast_125 ?_
      refine aw_iconst hK (0) rfl dX8_makesLeast_127 ?_
      refine aw_istore hK [(8, q_i (0 : Int32)), (7, q_i (1 : Int32)), (0, q_r 70), (1, q_i x1), (2, q_i x2), (3, q_i x3), (6, q_i x6)] (by decide) rfl dX8_makesLeast_128 ?_
      refine aw_sub [2, 3, 4, 5, 6, 1, 0] (lv' := [(0, q_r 70), (1, q_i x1), (2, q_i x2), (3, q_i x3), (6, q_i x6), (7, q_i (1 : Int32)), (8, q_i (0 : Int32))]) rfl ?_
      exact lp_X8_makesLeast_130 hK hR hrec_94 _ hF
def S_X8_makesLeast_67 (N : Nat) (rec_67 : Mem → Int32 → Int32 → Int32 → Int32 → Int32 → Option (Int32 × Mem)) (m : Mem) (x1 : Int32) (x2 : Int32) (x3 : Int32) (x4 : Int32) (x5 : Int32) : Option (Int32 × Mem) :=
  if x5 = x4 then (
    calv (F_X8_begins N m) fun m16 =>
    L_X8_makesLeast_94 N N m16 x1 x2 x3 (0 : Int32)
  ) else (
    cal (F_X8_sorts N m) fun r19 m18 =>
    rec_67 m18 x1 x2 x3 x5 r19
  )
def L_X8_makesLeast_67 (N : Nat) : Nat → Mem → Int32 → Int32 → Int32 → Int32 → Int32 → Option (Int32 × Mem)
  | 0 => fun _ _ _ _ _ _ => none
  | f + 1 => S_X8_makesLeast_67 N (L_X8_makesLeast_67 N f)
set_option maxRecDepth 100000 in
set_option maxHeartbeats 4000000 in
theorem lp_X8_makesLeast_67 {N : Nat} {K : KT} {m' : Mem} {r : Int32} (hK : KOK K cX8_makesLeast 9 RX8 wsX8_makesLeast 3 0 78) (hR : KRet K (some .boolean) (some r) m') : ∀ (f : Nat) {m : Mem} {x1 : Int32} {x2 : Int32} {x3 : Int32} {x4 : Int32} {x5 : Int32}, L_X8_makesLeast_67 N f m x1 x2 x3 x4 x5 = some (r, m') → AW K 0 67 [(0, q_r 70), (1, q_i x1), (2, q_i x2), (3, q_i x3), (4, q_i x4), (5, q_i x5)] [] m := by
  intro f
  induction f with
  | zero => intro m x1 x2 x3 x4 x5 hF; cases hF
  | succ f hrec_67 =>
    intro m x1 x2 x3 x4 x5 hF
    have hF : S_X8_makesLeast_67 N (L_X8_makesLeast_67 N f) m x1 x2 x3 x4 x5 = some (r, m') := hF
    unfold S_X8_makesLeast_67 at hF
    refine aw_iload hK 5 rfl dX8_makesLeast_67 ?_
    refine aw_iload hK 4 rfl dX8_makesLeast_69 ?_
    refine aw_icmp_eq hK 87 rfl dX8_makesLeast_71 (fun hc => ?_) (fun hc => ?_)
    · have hF := if_t hF hc
      refine aw_aload_n hK 0 rfl dX8_makesLeast_87 ?_
      obtain ⟨m16, h15, hF⟩ := calv_some hF
      refine aw_cv hK 8 (as := []) (tr_X8_begins h15) gX8_makesLeast_X8_begins rfl rfl rfl (by decide) (na := 0) (by decide +kernel) rfl ⟨by decide, by decide⟩ (Nat.zero_le _) (Nat.le_of_ble_eq_true rfl) dX8_makesLeast_88 ?_
      refine aw_iconst hK (0) rfl dX8_makesLeast_91 ?_
      refine aw_istore hK [(6, q_i (0 : Int32)), (0, q_r 70), (1, q_i x1), (2, q_i x2), (3, q_i x3), (4, q_i x4), (5, q_i x5)] (by decide) rfl dX8_makesLeast_92 ?_
      refine aw_sub [1, 2, 3, 4, 0] (lv' := [(0, q_r 70), (1, q_i x1), (2, q_i x2), (3, q_i x3), (6, q_i (0 : Int32))]) rfl ?_
      exact lp_X8_makesLeast_94 hK hR _ hF
    · have hF := if_f hF hc
      refine aw_iload hK 5 rfl dX8_makesLeast_74 ?_
      refine aw_istore hK [(4, q_i x5), (0, q_r 70), (1, q_i x1), (2, q_i x2), (3, q_i x3), (5, q_i x5)] (by decide) rfl dX8_makesLeast_76 ?_
      refine aw_aload_n hK 1 rfl dX8_makesLeast_78 ?_
      obtain ⟨r19, m18, h17, hF⟩ := cal_some hF
      refine aw_cv hK 8 (as := []) (tr_X8_sorts h17) gX8_makesLeast_X8_sorts rfl rfl rfl (by decide) (na := 0) (by decide +kernel) rfl ⟨by decide, by decide⟩ (Nat.zero_le _) (Nat.le_of_ble_eq_true rfl) dX8_makesLeast_79 ?_
      refine aw_istore hK [(5, q_i r19), (4, q_i x5), (0, q_r 70), (1, q_i x1), (2, q_i x2), (3, q_i x3)] (by decide) rfl dX8_makesLeast_82 ?_
      refine aw_goto hK 67 rfl dX8_makesLeast_84 ?_
      refine aw_sub [2, 3, 4, 5, 1, 0] (lv' := [(0, q_r 70), (1, q_i x1), (2, q_i x2), (3, q_i x3), (4, q_i x5), (5, q_i r19)]) rfl ?_
      exact hrec_67 hF
def B_X8_makesLeast_47 (N : Nat) (rec_15 : Mem → Int32 → Int32 → Int32 → Int32 → Option (Int32 × Mem)) (m : Mem) (x1 : Int32) (x2 : Int32) (x3 : Int32) (x4 : Int32) (s0 : Int32) (s1 : Int32) : Option (Int32 × Mem) :=
  gd (inb s1 (alen 97)) <|
  bnd (mup m 97 (ix s1) s0) fun m13 =>
  bnd (x4 + (1 : Int32)) fun y14 =>
  rec_15 m13 x1 x2 x3 y14
set_option maxRecDepth 100000 in
set_option maxHeartbeats 4000000 in
theorem bk_X8_makesLeast_47 {N : Nat} {K : KT} {m' : Mem} {rec_15 : Mem → Int32 → Int32 → Int32 → Int32 → Option (Int32 × Mem)} {r : Int32} (hK : KOK K cX8_makesLeast 9 RX8 wsX8_makesLeast 3 0 78) (hR : KRet K (some .boolean) (some r) m') (hrec_15 : ∀ {m : Mem} {x1 : Int32} {x2 : Int32} {x3 : Int32} {x4 : Int32}, rec_15 m x1 x2 x3 x4 = some (r, m') → AW K 0 15 [(0, q_r 70), (1, q_i x1), (2, q_i x2), (3, q_i x3), (4, q_i x4)] [] m) {m : Mem} {x1 : Int32} {x2 : Int32} {x3 : Int32} {x4 : Int32} {s0 : Int32} {s1 : Int32} (hF : B_X8_makesLeast_47 N rec_15 m x1 x2 x3 x4 s0 s1 = some (r, m')) : AW K 0 47 [(0, q_r 70), (1, q_i x1), (2, q_i x2), (3, q_i x3), (4, q_i x4)] [q_i s0, q_i s1, q_r 97] m := by
  unfold B_X8_makesLeast_47 at hF
  obtain ⟨g12, hF⟩ := gd_some hF
  refine aw_iast hK rfl g12 dX8_makesLeast_47 ?_
  obtain ⟨m13, hm13, hF⟩ := bnd_some hF
  refine aw_mm hm13 ?_
  obtain ⟨y14, hy14, hF⟩ := bnd_some hF
  refine aw_iinc hK (cz := 1) 4 [(4, q_i y14), (0, q_r 70), (1, q_i x1), (2, q_i x2), (3, q_i x3)] (by decide) rfl rfl hy14 rfl dX8_makesLeast_48 ?_
  refine aw_goto hK 15 rfl dX8_makesLeast_51 ?_
  refine aw_sub [1, 2, 3, 4, 0] (lv' := [(0, q_r 70), (1, q_i x1), (2, q_i x2), (3, q_i x3), (4, q_i y14)]) rfl ?_
  exact hrec_15 hF
def S_X8_makesLeast_15 (N : Nat) (rec_15 : Mem → Int32 → Int32 → Int32 → Int32 → Option (Int32 × Mem)) (m : Mem) (x1 : Int32) (x2 : Int32) (x3 : Int32) (x4 : Int32) : Option (Int32 × Mem) :=
  if (m 70 35) ≤ x4 then (
    calv (F_X8_prunes N m) fun m5 =>
    cal (F_X8_sorts N m5) fun r8 m7 =>
    L_X8_makesLeast_67 N N m7 x1 x2 x3 (0 : Int32) r8
  ) else (
    cal (F_X8_isAccepted N m x4 x1 x2 x3) fun r11 m10 =>
    if r11 = (0 : Int32) then (
      B_X8_makesLeast_47 N rec_15 m10 x1 x2 x3 x4 (0 : Int32) x4
    ) else (
      B_X8_makesLeast_47 N rec_15 m10 x1 x2 x3 x4 (1 : Int32) x4
    )
  )
def L_X8_makesLeast_15 (N : Nat) : Nat → Mem → Int32 → Int32 → Int32 → Int32 → Option (Int32 × Mem)
  | 0 => fun _ _ _ _ _ => none
  | f + 1 => S_X8_makesLeast_15 N (L_X8_makesLeast_15 N f)
set_option maxRecDepth 100000 in
set_option maxHeartbeats 4000000 in
theorem lp_X8_makesLeast_15 {N : Nat} {K : KT} {m' : Mem} {r : Int32} (hK : KOK K cX8_makesLeast 9 RX8 wsX8_makesLeast 3 0 78) (hR : KRet K (some .boolean) (some r) m') : ∀ (f : Nat) {m : Mem} {x1 : Int32} {x2 : Int32} {x3 : Int32} {x4 : Int32}, L_X8_makesLeast_15 N f m x1 x2 x3 x4 = some (r, m') → AW K 0 15 [(0, q_r 70), (1, q_i x1), (2, q_i x2), (3, q_i x3), (4, q_i x4)] [] m := by
  intro f
  induction f with
  | zero => intro m x1 x2 x3 x4 hF; cases hF
  | succ f hrec_15 =>
    intro m x1 x2 x3 x4 hF
    have hF : S_X8_makesLeast_15 N (L_X8_makesLeast_15 N f) m x1 x2 x3 x4 = some (r, m') := hF
    unfold S_X8_makesLeast_15 at hF
    refine aw_iload hK 4 rfl dX8_makesLeast_15 ?_
    refine aw_aload_n hK 0 rfl dX8_makesLeast_17 ?_
    refine gf_8_35 hK rfl (List.mem_of_getElem? (i := 1) rfl) dX8_makesLeast_18 ?_
    refine aw_icmp_ge hK 54 rfl dX8_makesLeast_21 (fun hc => ?_) (fun hc => ?_)
    · have hF := if_t hF hc
      refine aw_aload_n hK 0 rfl dX8_makesLeast_54 ?_
      obtain ⟨m5, h4, hF⟩ := calv_some hF
      refine aw_cv hK 8 (as := []) (tr_X8_prunes h4) gX8_makesLeast_X8_prunes rfl rfl rfl (by decide) (na := 0) (by decide +kernel) rfl ⟨by decide, by decide⟩ (Nat.zero_le _) (Nat.le_of_ble_eq_true rfl) dX8_makesLeast_55 ?_
      refine aw_iconst hK (0) rfl dX8_makesLeast_58 ?_
      refine aw_istore hK [(4, q_i (0 : Int32)), (0, q_r 70), (1, q_i x1), (2, q_i x2), (3, q_i x3)] (by decide) rfl dX8_makesLeast_59 ?_
      refine aw_aload_n hK 1 rfl dX8_makesLeast_61 ?_
      obtain ⟨r8, m7, h6, hF⟩ := cal_some hF
      refine aw_cv hK 8 (as := []) (tr_X8_sorts h6) gX8_makesLeast_X8_sorts rfl rfl rfl (by decide) (na := 0) (by decide +kernel) rfl ⟨by decide, by decide⟩ (Nat.zero_le _) (Nat.le_of_ble_eq_true rfl) dX8_makesLeast_62 ?_
      refine aw_istore hK [(5, q_i r8), (4, q_i (0 : Int32)), (0, q_r 70), (1, q_i x1), (2, q_i x2), (3, q_i x3)] (by decide) rfl dX8_makesLeast_65 ?_
      refine aw_sub [2, 3, 4, 5, 1, 0] (lv' := [(0, q_r 70), (1, q_i x1), (2, q_i x2), (3, q_i x3), (4, q_i (0 : Int32)), (5, q_i r8)]) rfl ?_
      exact lp_X8_makesLeast_67 hK hR _ hF
    · have hF := if_f hF hc
      refine aw_aload_n hK 0 rfl dX8_makesLeast_24 ?_
      refine gf_8_33 hK rfl (97) rfl (List.mem_of_getElem? (i := 2) rfl) dX8_makesLeast_25 ?_
      refine aw_iload hK 4 rfl dX8_makesLeast_28 ?_
      refine aw_aload_n hK 0 rfl dX8_makesLeast_30 ?_
      refine aw_iload hK 4 rfl dX8_makesLeast_31 ?_
      refine aw_iload_n hK 1 rfl dX8_makesLeast_33 ?_
      refine aw_iload_n hK 2 rfl dX8_makesLeast_34 ?_
      refine aw_iload_n hK 3 rfl dX8_makesLeast_35 ?_
      obtain ⟨r11, m10, h9, hF⟩ := cal_some hF
      refine aw_cv hK 8 (as := [q_i x4, q_i x1, q_i x2, q_i x3]) (tr_X8_isAccepted h9) gX8_makesLeast_X8_isAccepted rfl rfl rfl (by decide) (na := 4) (by decide +kernel) rfl ⟨by decide, by decide⟩ (Nat.zero_le _) (Nat.le_of_ble_eq_true rfl) dX8_makesLeast_36 ?_
      refine aw_if_eq hK 46 rfl dX8_makesLeast_39 (fun hc => ?_) (fun hc => ?_)
      · have hF := if_t hF hc
        refine aw_iconst hK (0) rfl dX8_makesLeast_46 ?_
        refine aw_sub [0, 1, 2, 3, 4] (lv' := [(0, q_r 70), (1, q_i x1), (2, q_i x2), (3, q_i x3), (4, q_i x4)]) rfl ?_
        exact bk_X8_makesLeast_47 hK hR hrec_15 hF
      · have hF := if_f hF hc
        refine aw_iconst hK (1) rfl dX8_makesLeast_42 ?_
        refine aw_goto hK 47 rfl dX8_makesLeast_43 ?_
        refine aw_sub [0, 1, 2, 3, 4] (lv' := [(0, q_r 70), (1, q_i x1), (2, q_i x2), (3, q_i x3), (4, q_i x4)]) rfl ?_
        exact bk_X8_makesLeast_47 hK hR hrec_15 hF
def F_X8_makesLeast (N : Nat) (m : Mem) (x1 : Int32) (x2 : Int32) (x3 : Int32) : Option (Int32 × Mem) :=
  cal (F_X8_looks N m x1 x2 x3) fun r3 m2 =>
  if r3 = (0 : Int32) then (
    some ((0 : Int32), m2)
  ) else (
    L_X8_makesLeast_15 N N m2 x1 x2 x3 (0 : Int32)
  )
set_option maxRecDepth 100000 in
set_option maxHeartbeats 4000000 in
theorem tr_X8_makesLeast {N : Nat} {m m' : Mem} {r : Int32} {x1 : Int32} {x2 : Int32} {x3 : Int32} (hF : F_X8_makesLeast N m x1 x2 x3 = some (r, m')) : Tr yX8_makesLeast wsX8_makesLeast 3 78 [q_r 70, q_i x1, q_i x2, q_i x3] m (some r) m' := by
  refine tr_of (bytes := cX8_makesLeast) (maxL := 9) (ret := (some .boolean)) (by decide) rfl (Nat.le_of_ble_eq_true rfl) (fun K hK hR => ?_)
  have hK : KOK K cX8_makesLeast 9 RX8 wsX8_makesLeast 3 0 78 := hK
  show AW K 0 0 [(0, q_r 70), (1, q_i x1), (2, q_i x2), (3, q_i x3)] [] m
  unfold F_X8_makesLeast at hF
  refine aw_aload_n hK 0 rfl dX8_makesLeast_0 ?_
  refine aw_iload_n hK 1 rfl dX8_makesLeast_1 ?_
  refine aw_iload_n hK 2 rfl dX8_makesLeast_2 ?_
  refine aw_iload_n hK 3 rfl dX8_makesLeast_3 ?_
  obtain ⟨r3, m2, h1, hF⟩ := cal_some hF
  refine aw_cv hK 8 (as := [q_i x1, q_i x2, q_i x3]) (tr_X8_looks h1) gX8_makesLeast_X8_looks rfl rfl rfl (by decide) (na := 3) (by decide +kernel) rfl ⟨by decide, by decide⟩ (Nat.zero_le _) (Nat.le_of_ble_eq_true rfl) dX8_makesLeast_4 ?_
  refine aw_if_ne hK 12 rfl dX8_makesLeast_7 (fun hc => ?_) (fun hc => ?_)
  · have hF := if_f hF hc
    refine aw_iconst hK (0) rfl dX8_makesLeast_12 ?_
    refine aw_istore hK [(4, q_i (0 : Int32)), (0, q_r 70), (1, q_i x1), (2, q_i x2), (3, q_i x3)] (by decide) rfl dX8_makesLeast_13 ?_
    refine aw_sub [1, 2, 3, 4, 0] (lv' := [(0, q_r 70), (1, q_i x1), (2, q_i x2), (3, q_i x3), (4, q_i (0 : Int32))]) rfl ?_
    exact lp_X8_makesLeast_15 hK hR _ hF
  · have hF := if_t hF hc
    refine aw_iconst hK (0) rfl dX8_makesLeast_10 ?_
    obtain ⟨rfl, rfl⟩ := so_inj hF
    exact aw_iret hK hR rfl dX8_makesLeast_11
def B_X8_least_45 (N : Nat) (m : Mem) (s0 : Int32) : Option (Int32 × Mem) :=
  cal (F_X8_isFine N m s0) fun r15 m14 =>
  if r15 = (0 : Int32) then (
    some ((0 : Int32), m14)
  ) else (
    cal (F_X8_keeps N m14) fun r18 m17 =>
    some (r18, m17)
  )
set_option maxRecDepth 100000 in
set_option maxHeartbeats 4000000 in
theorem bk_X8_least_45 {N : Nat} {K : KT} {m' : Mem} {r : Int32} (hK : KOK K cX8_least 3 RX8 wsX8_least 4 0 106) (hR : KRet K (some .int) (some r) m') {m : Mem} {s0 : Int32} (hF : B_X8_least_45 N m s0 = some (r, m')) : AW K 0 45 [(0, q_r 70)] [q_i s0, q_r 70] m := by
  unfold B_X8_least_45 at hF
  obtain ⟨r15, m14, h13, hF⟩ := cal_some hF
  refine aw_cv hK 8 (as := [q_i s0]) (tr_X8_isFine h13) gX8_least_X8_isFine rfl rfl rfl (by decide) (na := 1) (by decide +kernel) rfl ⟨by decide, by decide⟩ (Nat.zero_le _) (Nat.le_of_ble_eq_true rfl) dX8_least_45 ?_
  refine aw_if_ne hK 53 rfl dX8_least_48 (fun hc => ?_) (fun hc => ?_)
  · have hF := if_f hF hc
    refine aw_aload_n hK 0 rfl dX8_least_53 ?_
    obtain ⟨r18, m17, h16, hF⟩ := cal_some hF
    refine aw_cv hK 8 (as := []) (tr_X8_keeps h16) gX8_least_X8_keeps rfl rfl rfl (by decide) (na := 0) (by decide +kernel) rfl ⟨by decide, by decide⟩ (Nat.zero_le _) (Nat.le_of_ble_eq_true rfl) dX8_least_54 ?_
    obtain ⟨rfl, rfl⟩ := so_inj hF
    exact aw_iret hK hR rfl dX8_least_57
  · have hF := if_t hF hc
    refine aw_iconst hK (0) rfl dX8_least_51 ?_
    obtain ⟨rfl, rfl⟩ := so_inj hF
    exact aw_iret hK hR rfl dX8_least_52
def B_X8_least_40 (N : Nat) (m : Mem) : Option (Int32 × Mem) :=
  B_X8_least_45 N m (2 : Int32)
set_option maxRecDepth 100000 in
set_option maxHeartbeats 4000000 in
theorem bk_X8_least_40 {N : Nat} {K : KT} {m' : Mem} {r : Int32} (hK : KOK K cX8_least 3 RX8 wsX8_least 4 0 106) (hR : KRet K (some .int) (some r) m') {m : Mem} (hF : B_X8_least_40 N m = some (r, m')) : AW K 0 40 [(0, q_r 70)] [q_r 70] m := by
  unfold B_X8_least_40 at hF
  refine aw_iconst hK (2) rfl dX8_least_40 ?_
  refine aw_goto hK 45 rfl dX8_least_41 ?_
  refine aw_sub [0] (lv' := [(0, q_r 70)]) rfl ?_
  exact bk_X8_least_45 hK hR hF
def F_X8_least (N : Nat) (m : Mem) (x1 : Int32) : Option (Int32 × Mem) :=
  cal (F_X8_isMachine N m x1) fun r3 m2 =>
  if r3 = (0 : Int32) then (
    B_X8_least_45 N m2 (1 : Int32)
  ) else (
    cal (F_X8_isThere N m2) fun r6 m5 =>
    if r6 = (0 : Int32) then (
      B_X8_least_40 N m5
    ) else (
      cal (F_X8_isPlainOf N m5 x1) fun r9 m8 =>
      if r9 = (0 : Int32) then (
        B_X8_least_40 N m8
      ) else (
        cal (F_X8_makesLeast N m8 x1 x1 (0 : Int32)) fun r12 m11 =>
        if r12 = (0 : Int32) then (
          B_X8_least_40 N m11
        ) else (
          B_X8_least_45 N m11 (0 : Int32)
        )
      )
    )
  )
set_option maxRecDepth 100000 in
set_option maxHeartbeats 4000000 in
theorem tr_X8_least {N : Nat} {m m' : Mem} {r : Int32} {x1 : Int32} (hF : F_X8_least N m x1 = some (r, m')) : Tr yX8_least wsX8_least 4 106 [q_r 70, q_i x1] m (some r) m' := by
  refine tr_of (bytes := cX8_least) (maxL := 3) (ret := (some .int)) (by decide) rfl (Nat.le_of_ble_eq_true rfl) (fun K hK hR => ?_)
  have hK : KOK K cX8_least 3 RX8 wsX8_least 4 0 106 := hK
  show AW K 0 0 [(0, q_r 70), (1, q_i x1)] [] m
  unfold F_X8_least at hF
  refine aw_aload_n hK 0 rfl dX8_least_0 ?_
  refine aw_iload_n hK 1 rfl dX8_least_1 ?_
  obtain ⟨r3, m2, h1, hF⟩ := cal_some hF
  refine aw_cv hK 8 (as := [q_i x1]) (tr_X8_isMachine h1) gX8_least_X8_isMachine rfl rfl rfl (by decide) (na := 1) (by decide +kernel) rfl ⟨by decide, by decide⟩ (Nat.zero_le _) (Nat.le_of_ble_eq_true rfl) dX8_least_2 ?_
  refine aw_istore_n hK [(2, q_i r3), (0, q_r 70), (1, q_i x1)] (by decide) rfl dX8_least_5 ?_
  refine aw_aload_n hK 1 rfl dX8_least_6 ?_
  refine aw_iload_n hK 0 rfl dX8_least_7 ?_
  refine aw_if_ne hK 15 rfl dX8_least_8 (fun hc => ?_) (fun hc => ?_)
  · have hF := if_f hF hc
    refine aw_aload_n hK 1 rfl dX8_least_15 ?_
    obtain ⟨r6, m5, h4, hF⟩ := cal_some hF
    refine aw_cv hK 8 (as := []) (tr_X8_isThere h4) gX8_least_X8_isThere rfl rfl rfl (by decide) (na := 0) (by decide +kernel) rfl ⟨by decide, by decide⟩ (Nat.zero_le _) (Nat.le_of_ble_eq_true rfl) dX8_least_16 ?_
    refine aw_if_eq hK 40 rfl dX8_least_19 (fun hc => ?_) (fun hc => ?_)
    · have hF := if_t hF hc
      refine aw_sub [1] (lv' := [(0, q_r 70)]) rfl ?_
      exact bk_X8_least_40 hK hR hF
    · have hF := if_f hF hc
      refine aw_aload_n hK 1 rfl dX8_least_22 ?_
      refine aw_iload_n hK 2 rfl dX8_least_23 ?_
      obtain ⟨r9, m8, h7, hF⟩ := cal_some hF
      refine aw_cv hK 8 (as := [q_i x1]) (tr_X8_isPlainOf h7) gX8_least_X8_isPlainOf rfl rfl rfl (by decide) (na := 1) (by decide +kernel) rfl ⟨by decide, by decide⟩ (Nat.zero_le _) (Nat.le_of_ble_eq_true rfl) dX8_least_24 ?_
      refine aw_if_eq hK 40 rfl dX8_least_27 (fun hc => ?_) (fun hc => ?_)
      · have hF := if_t hF hc
        refine aw_sub [1] (lv' := [(0, q_r 70)]) rfl ?_
        exact bk_X8_least_40 hK hR hF
      · have hF := if_f hF hc
        refine aw_aload_n hK 1 rfl dX8_least_30 ?_
        refine aw_iload_n hK 2 rfl dX8_least_31 ?_
        refine aw_iload_n hK 2 rfl dX8_least_32 ?_
        refine aw_iconst hK (0) rfl dX8_least_33 ?_
        obtain ⟨r12, m11, h10, hF⟩ := cal_some hF
        refine aw_cv hK 8 (as := [q_i x1, q_i x1, q_i (0 : Int32)]) (tr_X8_makesLeast h10) gX8_least_X8_makesLeast rfl rfl rfl (by decide) (na := 3) (by decide +kernel) rfl ⟨by decide, by decide⟩ (Nat.zero_le _) (Nat.le_of_ble_eq_true rfl) dX8_least_34 ?_
        refine aw_if_ne hK 44 rfl dX8_least_37 (fun hc => ?_) (fun hc => ?_)
        · have hF := if_f hF hc
          refine aw_iconst hK (0) rfl dX8_least_44 ?_
          refine aw_sub [1] (lv' := [(0, q_r 70)]) rfl ?_
          exact bk_X8_least_45 hK hR hF
        · have hF := if_t hF hc
          refine aw_sub [1] (lv' := [(0, q_r 70)]) rfl ?_
          exact bk_X8_least_40 hK hR hF
  · have hF := if_t hF hc
    refine aw_iconst hK (1) rfl dX8_least_11 ?_
    refine aw_goto hK 45 rfl dX8_least_12 ?_
    refine aw_sub [1] (lv' := [(0, q_r 70)]) rfl ?_
    exact bk_X8_least_45 hK hR hF
def B_X8_meet_96 (N : Nat) (m : Mem) (s0 : Int32) : Option (Int32 × Mem) :=
  cal (F_X8_isFine N m s0) fun r18 m17 =>
  if r18 = (0 : Int32) then (
    some ((0 : Int32), m17)
  ) else (
    cal (F_X8_keeps N m17) fun r21 m20 =>
    some (r21, m20)
  )
set_option maxRecDepth 100000 in
set_option maxHeartbeats 4000000 in
theorem bk_X8_meet_96 {N : Nat} {K : KT} {m' : Mem} {r : Int32} (hK : KOK K cX8_meet 6 RX8 wsX8_meet 4 0 106) (hR : KRet K (some .int) (some r) m') {m : Mem} {s0 : Int32} (hF : B_X8_meet_96 N m s0 = some (r, m')) : AW K 0 96 [(0, q_r 70)] [q_i s0, q_r 70] m := by
  unfold B_X8_meet_96 at hF
  obtain ⟨r18, m17, h16, hF⟩ := cal_some hF
  refine aw_cv hK 8 (as := [q_i s0]) (tr_X8_isFine h16) gX8_meet_X8_isFine rfl rfl rfl (by decide) (na := 1) (by decide +kernel) rfl ⟨by decide, by decide⟩ (Nat.zero_le _) (Nat.le_of_ble_eq_true rfl) dX8_meet_96 ?_
  refine aw_if_ne hK 104 rfl dX8_meet_99 (fun hc => ?_) (fun hc => ?_)
  · have hF := if_f hF hc
    refine aw_aload_n hK 0 rfl dX8_meet_104 ?_
    obtain ⟨r21, m20, h19, hF⟩ := cal_some hF
    refine aw_cv hK 8 (as := []) (tr_X8_keeps h19) gX8_meet_X8_keeps rfl rfl rfl (by decide) (na := 0) (by decide +kernel) rfl ⟨by decide, by decide⟩ (Nat.zero_le _) (Nat.le_of_ble_eq_true rfl) dX8_meet_105 ?_
    obtain ⟨rfl, rfl⟩ := so_inj hF
    exact aw_iret hK hR rfl dX8_meet_108
  · have hF := if_t hF hc
    refine aw_iconst hK (0) rfl dX8_meet_102 ?_
    obtain ⟨rfl, rfl⟩ := so_inj hF
    exact aw_iret hK hR rfl dX8_meet_103
def B_X8_meet_91 (N : Nat) (m : Mem) : Option (Int32 × Mem) :=
  B_X8_meet_96 N m (2 : Int32)
set_option maxRecDepth 100000 in
set_option maxHeartbeats 4000000 in
theorem bk_X8_meet_91 {N : Nat} {K : KT} {m' : Mem} {r : Int32} (hK : KOK K cX8_meet 6 RX8 wsX8_meet 4 0 106) (hR : KRet K (some .int) (some r) m') {m : Mem} (hF : B_X8_meet_91 N m = some (r, m')) : AW K 0 91 [(0, q_r 70)] [q_r 70] m := by
  unfold B_X8_meet_91 at hF
  refine aw_iconst hK (2) rfl dX8_meet_91 ?_
  refine aw_goto hK 96 rfl dX8_meet_92 ?_
  refine aw_sub [0] (lv' := [(0, q_r 70)]) rfl ?_
  exact bk_X8_meet_96 hK hR hF
def B_X8_meet_85 (N : Nat) (m : Mem) (s0 : Int32) (s1 : Int32) (s2 : Int32) : Option (Int32 × Mem) :=
  cal (F_X8_makesLeast N m s2 s1 s0) fun r24 m23 =>
  if r24 = (0 : Int32) then (
    B_X8_meet_91 N m23
  ) else (
    B_X8_meet_96 N m23 (0 : Int32)
  )
set_option maxRecDepth 100000 in
set_option maxHeartbeats 4000000 in
theorem bk_X8_meet_85 {N : Nat} {K : KT} {m' : Mem} {r : Int32} (hK : KOK K cX8_meet 6 RX8 wsX8_meet 4 0 106) (hR : KRet K (some .int) (some r) m') {m : Mem} {s0 : Int32} {s1 : Int32} {s2 : Int32} (hF : B_X8_meet_85 N m s0 s1 s2 = some (r, m')) : AW K 0 85 [(0, q_r 70)] [q_i s0, q_i s1, q_i s2, q_r 70, q_r 70] m := by
  unfold B_X8_meet_85 at hF
  obtain ⟨r24, m23, h22, hF⟩ := cal_some hF
  refine aw_cv hK 8 (as := [q_i s2, q_i s1, q_i s0]) (tr_X8_makesLeast h22) gX8_meet_X8_makesLeast rfl rfl rfl (by decide) (na := 3) (by decide +kernel) rfl ⟨by decide, by decide⟩ (Nat.zero_le _) (Nat.le_of_ble_eq_true rfl) dX8_meet_85 ?_
  refine aw_if_ne hK 95 rfl dX8_meet_88 (fun hc => ?_) (fun hc => ?_)
  · have hF := if_f hF hc
    refine aw_iconst hK (0) rfl dX8_meet_95 ?_
    refine aw_sub [0] (lv' := [(0, q_r 70)]) rfl ?_
    exact bk_X8_meet_96 hK hR hF
  · have hF := if_t hF hc
    refine aw_sub [0] (lv' := [(0, q_r 70)]) rfl ?_
    exact bk_X8_meet_91 hK hR hF
def B_X8_meet_56 (N : Nat) (m : Mem) (x1 : Int32) (x2 : Int32) (x3 : Int32) (x4 : Int32) (s0 : Int32) : Option (Int32 × Mem) :=
  if x4 = (0 : Int32) then (
    B_X8_meet_96 N m (1 : Int32)
  ) else (
    if s0 = (0 : Int32) then (
      B_X8_meet_91 N m
    ) else (
      if x3 = (0 : Int32) then (
        B_X8_meet_85 N m (2 : Int32) x2 x1
      ) else (
        B_X8_meet_85 N m (1 : Int32) x2 x1
      )
    )
  )
set_option maxRecDepth 100000 in
set_option maxHeartbeats 4000000 in
theorem bk_X8_meet_56 {N : Nat} {K : KT} {m' : Mem} {r : Int32} (hK : KOK K cX8_meet 6 RX8 wsX8_meet 4 0 106) (hR : KRet K (some .int) (some r) m') {m : Mem} {x1 : Int32} {x2 : Int32} {x3 : Int32} {x4 : Int32} {s0 : Int32} (hF : B_X8_meet_56 N m x1 x2 x3 x4 s0 = some (r, m')) : AW K 0 56 [(0, q_r 70), (1, q_i x1), (2, q_i x2), (3, q_i x3), (4, q_i x4)] [q_i s0] m := by
  unfold B_X8_meet_56 at hF
  refine aw_istore hK [(5, q_i s0), (0, q_r 70), (1, q_i x1), (2, q_i x2), (3, q_i x3), (4, q_i x4)] (by decide) rfl dX8_meet_56 ?_
  refine aw_aload_n hK 1 rfl dX8_meet_58 ?_
  refine aw_iload hK 5 rfl dX8_meet_59 ?_
  refine aw_if_ne hK 68 rfl dX8_meet_61 (fun hc => ?_) (fun hc => ?_)
  · have hF := if_f hF hc
    refine aw_iload hK 0 rfl dX8_meet_68 ?_
    refine aw_if_eq hK 91 rfl dX8_meet_70 (fun hc => ?_) (fun hc => ?_)
    · have hF := if_t hF hc
      refine aw_sub [1] (lv' := [(0, q_r 70)]) rfl ?_
      exact bk_X8_meet_91 hK hR hF
    · have hF := if_f hF hc
      refine aw_aload_n hK 1 rfl dX8_meet_73 ?_
      refine aw_iload_n hK 2 rfl dX8_meet_74 ?_
      refine aw_iload_n hK 3 rfl dX8_meet_75 ?_
      refine aw_iload_n hK 4 rfl dX8_meet_76 ?_
      refine aw_if_eq hK 84 rfl dX8_meet_77 (fun hc => ?_) (fun hc => ?_)
      · have hF := if_t hF hc
        refine aw_iconst hK (2) rfl dX8_meet_84 ?_
        refine aw_sub [1] (lv' := [(0, q_r 70)]) rfl ?_
        exact bk_X8_meet_85 hK hR hF
      · have hF := if_f hF hc
        refine aw_iconst hK (1) rfl dX8_meet_80 ?_
        refine aw_goto hK 85 rfl dX8_meet_81 ?_
        refine aw_sub [1] (lv' := [(0, q_r 70)]) rfl ?_
        exact bk_X8_meet_85 hK hR hF
  · have hF := if_t hF hc
    refine aw_iconst hK (1) rfl dX8_meet_64 ?_
    refine aw_goto hK 96 rfl dX8_meet_65 ?_
    refine aw_sub [1] (lv' := [(0, q_r 70)]) rfl ?_
    exact bk_X8_meet_96 hK hR hF
def B_X8_meet_55 (N : Nat) (m : Mem) (x1 : Int32) (x2 : Int32) (x3 : Int32) (x4 : Int32) : Option (Int32 × Mem) :=
  B_X8_meet_56 N m x1 x2 x3 x4 (0 : Int32)
set_option maxRecDepth 100000 in
set_option maxHeartbeats 4000000 in
theorem bk_X8_meet_55 {N : Nat} {K : KT} {m' : Mem} {r : Int32} (hK : KOK K cX8_meet 6 RX8 wsX8_meet 4 0 106) (hR : KRet K (some .int) (some r) m') {m : Mem} {x1 : Int32} {x2 : Int32} {x3 : Int32} {x4 : Int32} (hF : B_X8_meet_55 N m x1 x2 x3 x4 = some (r, m')) : AW K 0 55 [(0, q_r 70), (1, q_i x1), (2, q_i x2), (3, q_i x3), (4, q_i x4)] [] m := by
  unfold B_X8_meet_55 at hF
  refine aw_iconst hK (0) rfl dX8_meet_55 ?_
  refine aw_sub [0, 1, 2, 3, 4] (lv' := [(0, q_r 70), (1, q_i x1), (2, q_i x2), (3, q_i x3), (4, q_i x4)]) rfl ?_
  exact bk_X8_meet_56 hK hR hF
def B_X8_meet_21 (N : Nat) (m : Mem) (x1 : Int32) (x2 : Int32) (x3 : Int32) (s0 : Int32) : Option (Int32 × Mem) :=
  if s0 = (0 : Int32) then (
    B_X8_meet_55 N m x1 x2 x3 s0
  ) else (
    cal (F_X8_isThere N m) fun r9 m8 =>
    if r9 = (0 : Int32) then (
      B_X8_meet_55 N m8 x1 x2 x3 s0
    ) else (
      cal (F_X8_isPlainOf N m8 x1) fun r12 m11 =>
      if r12 = (0 : Int32) then (
        B_X8_meet_55 N m11 x1 x2 x3 s0
      ) else (
        cal (F_X8_isPlainOf N m11 x2) fun r15 m14 =>
        if r15 = (0 : Int32) then (
          B_X8_meet_55 N m14 x1 x2 x3 s0
        ) else (
          B_X8_meet_56 N m14 x1 x2 x3 s0 (1 : Int32)
        )
      )
    )
  )
set_option maxRecDepth 100000 in
set_option maxHeartbeats 4000000 in
theorem bk_X8_meet_21 {N : Nat} {K : KT} {m' : Mem} {r : Int32} (hK : KOK K cX8_meet 6 RX8 wsX8_meet 4 0 106) (hR : KRet K (some .int) (some r) m') {m : Mem} {x1 : Int32} {x2 : Int32} {x3 : Int32} {s0 : Int32} (hF : B_X8_meet_21 N m x1 x2 x3 s0 = some (r, m')) : AW K 0 21 [(0, q_r 70), (1, q_i x1), (2, q_i x2), (3, q_i x3)] [q_i s0] m := by
  unfold B_X8_meet_21 at hF
  refine aw_istore hK [(4, q_i s0), (0, q_r 70), (1, q_i x1), (2, q_i x2), (3, q_i x3)] (by decide) rfl dX8_meet_21 ?_
  refine aw_iload hK 0 rfl dX8_meet_23 ?_
  refine aw_if_eq hK 55 rfl dX8_meet_25 (fun hc => ?_) (fun hc => ?_)
  · have hF := if_t hF hc
    refine aw_sub [1, 2, 3, 4, 0] (lv' := [(0, q_r 70), (1, q_i x1), (2, q_i x2), (3, q_i x3), (4, q_i s0)]) rfl ?_
    exact bk_X8_meet_55 hK hR hF
  · have hF := if_f hF hc
    refine aw_aload_n hK 1 rfl dX8_meet_28 ?_
    obtain ⟨r9, m8, h7, hF⟩ := cal_some hF
    refine aw_cv hK 8 (as := []) (tr_X8_isThere h7) gX8_meet_X8_isThere rfl rfl rfl (by decide) (na := 0) (by decide +kernel) rfl ⟨by decide, by decide⟩ (Nat.zero_le _) (Nat.le_of_ble_eq_true rfl) dX8_meet_29 ?_
    refine aw_if_eq hK 55 rfl dX8_meet_32 (fun hc => ?_) (fun hc => ?_)
    · have hF := if_t hF hc
      refine aw_sub [1, 2, 3, 4, 0] (lv' := [(0, q_r 70), (1, q_i x1), (2, q_i x2), (3, q_i x3), (4, q_i s0)]) rfl ?_
      exact bk_X8_meet_55 hK hR hF
    · have hF := if_f hF hc
      refine aw_aload_n hK 1 rfl dX8_meet_35 ?_
      refine aw_iload_n hK 2 rfl dX8_meet_36 ?_
      obtain ⟨r12, m11, h10, hF⟩ := cal_some hF
      refine aw_cv hK 8 (as := [q_i x1]) (tr_X8_isPlainOf h10) gX8_meet_X8_isPlainOf rfl rfl rfl (by decide) (na := 1) (by decide +kernel) rfl ⟨by decide, by decide⟩ (Nat.zero_le _) (Nat.le_of_ble_eq_true rfl) dX8_meet_37 ?_
      refine aw_if_eq hK 55 rfl dX8_meet_40 (fun hc => ?_) (fun hc => ?_)
      · have hF := if_t hF hc
        refine aw_sub [1, 2, 3, 4, 0] (lv' := [(0, q_r 70), (1, q_i x1), (2, q_i x2), (3, q_i x3), (4, q_i s0)]) rfl ?_
        exact bk_X8_meet_55 hK hR hF
      · have hF := if_f hF hc
        refine aw_aload_n hK 1 rfl dX8_meet_43 ?_
        refine aw_iload_n hK 3 rfl dX8_meet_44 ?_
        obtain ⟨r15, m14, h13, hF⟩ := cal_some hF
        refine aw_cv hK 8 (as := [q_i x2]) (tr_X8_isPlainOf h13) gX8_meet_X8_isPlainOf rfl rfl rfl (by decide) (na := 1) (by decide +kernel) rfl ⟨by decide, by decide⟩ (Nat.zero_le _) (Nat.le_of_ble_eq_true rfl) dX8_meet_45 ?_
        refine aw_if_eq hK 55 rfl dX8_meet_48 (fun hc => ?_) (fun hc => ?_)
        · have hF := if_t hF hc
          refine aw_sub [1, 2, 3, 4, 0] (lv' := [(0, q_r 70), (1, q_i x1), (2, q_i x2), (3, q_i x3), (4, q_i s0)]) rfl ?_
          exact bk_X8_meet_55 hK hR hF
        · have hF := if_f hF hc
          refine aw_iconst hK (1) rfl dX8_meet_51 ?_
          refine aw_goto hK 56 rfl dX8_meet_52 ?_
          refine aw_sub [1, 2, 3, 4, 0] (lv' := [(0, q_r 70), (1, q_i x1), (2, q_i x2), (3, q_i x3), (4, q_i s0)]) rfl ?_
          exact bk_X8_meet_56 hK hR hF
def B_X8_meet_20 (N : Nat) (m : Mem) (x1 : Int32) (x2 : Int32) (x3 : Int32) : Option (Int32 × Mem) :=
  B_X8_meet_21 N m x1 x2 x3 (0 : Int32)
set_option maxRecDepth 100000 in
set_option maxHeartbeats 4000000 in
theorem bk_X8_meet_20 {N : Nat} {K : KT} {m' : Mem} {r : Int32} (hK : KOK K cX8_meet 6 RX8 wsX8_meet 4 0 106) (hR : KRet K (some .int) (some r) m') {m : Mem} {x1 : Int32} {x2 : Int32} {x3 : Int32} (hF : B_X8_meet_20 N m x1 x2 x3 = some (r, m')) : AW K 0 20 [(0, q_r 70), (1, q_i x1), (2, q_i x2), (3, q_i x3)] [] m := by
  unfold B_X8_meet_20 at hF
  refine aw_iconst hK (0) rfl dX8_meet_20 ?_
  refine aw_sub [0, 1, 2, 3] (lv' := [(0, q_r 70), (1, q_i x1), (2, q_i x2), (3, q_i x3)]) rfl ?_
  exact bk_X8_meet_21 hK hR hF
def F_X8_meet (N : Nat) (m : Mem) (x1 : Int32) (x2 : Int32) (x3 : Int32) : Option (Int32 × Mem) :=
  cal (F_X8_isMachine N m x1) fun r3 m2 =>
  if r3 = (0 : Int32) then (
    B_X8_meet_20 N m2 x1 x2 x3
  ) else (
    cal (F_X8_isMachine N m2 x2) fun r6 m5 =>
    if r6 = (0 : Int32) then (
      B_X8_meet_20 N m5 x1 x2 x3
    ) else (
      B_X8_meet_21 N m5 x1 x2 x3 (1 : Int32)
    )
  )
set_option maxRecDepth 100000 in
set_option maxHeartbeats 4000000 in
theorem tr_X8_meet {N : Nat} {m m' : Mem} {r : Int32} {x1 : Int32} {x2 : Int32} {x3 : Int32} (hF : F_X8_meet N m x1 x2 x3 = some (r, m')) : Tr yX8_meet wsX8_meet 4 106 [q_r 70, q_i x1, q_i x2, q_i x3] m (some r) m' := by
  refine tr_of (bytes := cX8_meet) (maxL := 6) (ret := (some .int)) (by decide) rfl (Nat.le_of_ble_eq_true rfl) (fun K hK hR => ?_)
  have hK : KOK K cX8_meet 6 RX8 wsX8_meet 4 0 106 := hK
  show AW K 0 0 [(0, q_r 70), (1, q_i x1), (2, q_i x2), (3, q_i x3)] [] m
  unfold F_X8_meet at hF
  refine aw_aload_n hK 0 rfl dX8_meet_0 ?_
  refine aw_iload_n hK 1 rfl dX8_meet_1 ?_
  obtain ⟨r3, m2, h1, hF⟩ := cal_some hF
  refine aw_cv hK 8 (as := [q_i x1]) (tr_X8_isMachine h1) gX8_meet_X8_isMachine rfl rfl rfl (by decide) (na := 1) (by decide +kernel) rfl ⟨by decide, by decide⟩ (Nat.zero_le _) (Nat.le_of_ble_eq_true rfl) dX8_meet_2 ?_
  refine aw_if_eq hK 20 rfl dX8_meet_5 (fun hc => ?_) (fun hc => ?_)
  · have hF := if_t hF hc
    refine aw_sub [0, 1, 2, 3] (lv' := [(0, q_r 70), (1, q_i x1), (2, q_i x2), (3, q_i x3)]) rfl ?_
    exact bk_X8_meet_20 hK hR hF
  · have hF := if_f hF hc
    refine aw_aload_n hK 0 rfl dX8_meet_8 ?_
    refine aw_iload_n hK 2 rfl dX8_meet_9 ?_
    obtain ⟨r6, m5, h4, hF⟩ := cal_some hF
    refine aw_cv hK 8 (as := [q_i x2]) (tr_X8_isMachine h4) gX8_meet_X8_isMachine rfl rfl rfl (by decide) (na := 1) (by decide +kernel) rfl ⟨by decide, by decide⟩ (Nat.zero_le _) (Nat.le_of_ble_eq_true rfl) dX8_meet_10 ?_
    refine aw_if_eq hK 20 rfl dX8_meet_13 (fun hc => ?_) (fun hc => ?_)
    · have hF := if_t hF hc
      refine aw_sub [0, 1, 2, 3] (lv' := [(0, q_r 70), (1, q_i x1), (2, q_i x2), (3, q_i x3)]) rfl ?_
      exact bk_X8_meet_20 hK hR hF
    · have hF := if_f hF hc
      refine aw_iconst hK (1) rfl dX8_meet_16 ?_
      refine aw_goto hK 21 rfl dX8_meet_17 ?_
      refine aw_sub [0, 1, 2, 3] (lv' := [(0, q_r 70), (1, q_i x1), (2, q_i x2), (3, q_i x3)]) rfl ?_
      exact bk_X8_meet_21 hK hR hF
def P_X8_isRule (x0 : Int32) (x1 : Int32) (x2 : Int32) (x3 : Int32) : Int32 :=
  if (P_X8_isIn x0 (0 : Int32) (7 : Int32)) = (0 : Int32) then (
    (0 : Int32)
  ) else (
    if (P_X8_isIn x1 (0 : Int32) (8 : Int32)) = (0 : Int32) then (
      (0 : Int32)
    ) else (
      if (P_X8_isIn x2 (-1 : Int32) (7 : Int32)) = (0 : Int32) then (
        (0 : Int32)
      ) else (
        if (P_X8_isIn x3 (-1 : Int32) (7 : Int32)) = (0 : Int32) then (
          (0 : Int32)
        ) else (
          (1 : Int32)
        )
      )
    )
  )
def F_X8_isRule (m : Mem) (x0 : Int32) (x1 : Int32) (x2 : Int32) (x3 : Int32) : Option (Int32 × Mem) :=
  if (P_X8_isIn x0 (0 : Int32) (7 : Int32)) = (0 : Int32) then (
    some ((0 : Int32), m)
  ) else (
    if (P_X8_isIn x1 (0 : Int32) (8 : Int32)) = (0 : Int32) then (
      some ((0 : Int32), m)
    ) else (
      if (P_X8_isIn x2 (-1 : Int32) (7 : Int32)) = (0 : Int32) then (
        some ((0 : Int32), m)
      ) else (
        if (P_X8_isIn x3 (-1 : Int32) (7 : Int32)) = (0 : Int32) then (
          some ((0 : Int32), m)
        ) else (
          some ((1 : Int32), m)
        )
      )
    )
  )
set_option maxRecDepth 100000 in
set_option maxHeartbeats 4000000 in
theorem tr_X8_isRule {m m' : Mem} {r : Int32} {x0 : Int32} {x1 : Int32} {x2 : Int32} {x3 : Int32} (hF : F_X8_isRule m x0 x1 x2 x3 = some (r, m')) : Tr yX8_isRule wsX8_isRule 1 22 [q_i x0, q_i x1, q_i x2, q_i x3] m (some r) m' := by
  refine tr_of (bytes := cX8_isRule) (maxL := 4) (ret := (some .boolean)) (by decide) rfl (Nat.le_of_ble_eq_true rfl) (fun K hK hR => ?_)
  have hK : KOK K cX8_isRule 4 RX8 wsX8_isRule 1 0 22 := hK
  show AW K 0 0 [(0, q_i x0), (1, q_i x1), (2, q_i x2), (3, q_i x3)] [] m
  unfold F_X8_isRule at hF
  refine aw_iload_n hK 0 rfl dX8_isRule_0 ?_
  refine aw_iconst hK (0) rfl dX8_isRule_1 ?_
  refine aw_bipush hK (7) rfl dX8_isRule_2 ?_
  refine aw_cs hK (as := [q_i x0, q_i (0 : Int32), q_i (7 : Int32)]) (trp_X8_isIn x0 (0 : Int32) (7 : Int32) _) gX8_isRule_X8_isIn rfl (na := 3) (by decide +kernel) rfl ⟨by decide, by decide⟩ (Nat.zero_le _) (Nat.le_of_ble_eq_true rfl) dX8_isRule_4 ?_
  refine aw_if_eq hK 44 rfl dX8_isRule_7 (fun hc => ?_) (fun hc => ?_)
  · have hF := if_t hF hc
    refine aw_iconst hK (0) rfl dX8_isRule_44 ?_
    obtain ⟨rfl, rfl⟩ := so_inj hF
    exact aw_iret hK hR rfl dX8_isRule_45
  · have hF := if_f hF hc
    refine aw_iload_n hK 1 rfl dX8_isRule_10 ?_
    refine aw_iconst hK (0) rfl dX8_isRule_11 ?_
    refine aw_bipush hK (8) rfl dX8_isRule_12 ?_
    refine aw_cs hK (as := [q_i x1, q_i (0 : Int32), q_i (8 : Int32)]) (trp_X8_isIn x1 (0 : Int32) (8 : Int32) _) gX8_isRule_X8_isIn rfl (na := 3) (by decide +kernel) rfl ⟨by decide, by decide⟩ (Nat.zero_le _) (Nat.le_of_ble_eq_true rfl) dX8_isRule_14 ?_
    refine aw_if_eq hK 44 rfl dX8_isRule_17 (fun hc => ?_) (fun hc => ?_)
    · have hF := if_t hF hc
      refine aw_iconst hK (0) rfl dX8_isRule_44 ?_
      obtain ⟨rfl, rfl⟩ := so_inj hF
      exact aw_iret hK hR rfl dX8_isRule_45
    · have hF := if_f hF hc
      refine aw_iload_n hK 2 rfl dX8_isRule_20 ?_
      refine aw_iconst hK (-1) rfl dX8_isRule_21 ?_
      refine aw_bipush hK (7) rfl dX8_isRule_22 ?_
      refine aw_cs hK (as := [q_i x2, q_i (-1 : Int32), q_i (7 : Int32)]) (trp_X8_isIn x2 (-1 : Int32) (7 : Int32) _) gX8_isRule_X8_isIn rfl (na := 3) (by decide +kernel) rfl ⟨by decide, by decide⟩ (Nat.zero_le _) (Nat.le_of_ble_eq_true rfl) dX8_isRule_24 ?_
      refine aw_if_eq hK 44 rfl dX8_isRule_27 (fun hc => ?_) (fun hc => ?_)
      · have hF := if_t hF hc
        refine aw_iconst hK (0) rfl dX8_isRule_44 ?_
        obtain ⟨rfl, rfl⟩ := so_inj hF
        exact aw_iret hK hR rfl dX8_isRule_45
      · have hF := if_f hF hc
        refine aw_iload_n hK 3 rfl dX8_isRule_30 ?_
        refine aw_iconst hK (-1) rfl dX8_isRule_31 ?_
        refine aw_bipush hK (7) rfl dX8_isRule_32 ?_
        refine aw_cs hK (as := [q_i x3, q_i (-1 : Int32), q_i (7 : Int32)]) (trp_X8_isIn x3 (-1 : Int32) (7 : Int32) _) gX8_isRule_X8_isIn rfl (na := 3) (by decide +kernel) rfl ⟨by decide, by decide⟩ (Nat.zero_le _) (Nat.le_of_ble_eq_true rfl) dX8_isRule_34 ?_
        refine aw_if_eq hK 44 rfl dX8_isRule_37 (fun hc => ?_) (fun hc => ?_)
        · have hF := if_t hF hc
          refine aw_iconst hK (0) rfl dX8_isRule_44 ?_
          obtain ⟨rfl, rfl⟩ := so_inj hF
          exact aw_iret hK hR rfl dX8_isRule_45
        · have hF := if_f hF hc
          refine aw_iconst hK (1) rfl dX8_isRule_40 ?_
          refine aw_goto hK 45 rfl dX8_isRule_41 ?_
          obtain ⟨rfl, rfl⟩ := so_inj hF
          exact aw_iret hK hR rfl dX8_isRule_45
theorem pb_X8_isRule (x0 : Int32) (x1 : Int32) (x2 : Int32) (x3 : Int32) : isb (P_X8_isRule x0 x1 x2 x3) = true := by
  simp only [P_X8_isRule]
  repeat (first | rfl | split)
theorem fp_X8_isRule (m : Mem) (x0 : Int32) (x1 : Int32) (x2 : Int32) (x3 : Int32) : F_X8_isRule m x0 x1 x2 x3 = some (P_X8_isRule x0 x1 x2 x3, m) := by
  simp only [F_X8_isRule, P_X8_isRule]
  repeat (first | rfl | split)
theorem trp_X8_isRule (x0 : Int32) (x1 : Int32) (x2 : Int32) (x3 : Int32) (m : Mem) : Tr yX8_isRule wsX8_isRule 1 22 [q_i x0, q_i x1, q_i x2, q_i x3] m (some (P_X8_isRule x0 x1 x2 x3)) m := tr_X8_isRule (fp_X8_isRule m x0 x1 x2 x3)
