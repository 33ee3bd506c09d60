def B_X1_numberStates_152 (N : Nat) (m : Mem) (x1 : Int32) : Option (Int32 × Mem) :=
  some (x1, m)
set_option maxRecDepth 100000 in
set_option maxHeartbeats 4000000 in
theorem bk_X1_numberStates_152 {N : Nat} {K : KT} {m' : Mem} {r : Int32} (hK : KOK K cX1_numberStates 6 RX1 wsX1_numberStates 2 0 46) (hR : KRet K (some .int) (some r) m') {m : Mem} {x1 : Int32} (hF : B_X1_numberStates_152 N m x1 = some (r, m')) : AW K 0 152 [(1, q_i x1)] [] m := by
  unfold B_X1_numberStates_152 at hF
  refine aw_iload_n hK 0 rfl dX1_numberStates_152 ?_
  obtain ⟨rfl, rfl⟩ := so_inj hF
  exact aw_iret hK hR rfl dX1_numberStates_153
def B_X1_numberStates_140 (N : Nat) (rec_47 : Mem → Int32 → Int32 → Option (Int32 × Mem)) (rec_89 : Mem → Int32 → Int32 → Int32 → Int32 → Option (Int32 × Mem)) (m : Mem) (x1 : Int32) (x2 : Int32) (x3 : Int32) (x4 : Int32) : Option (Int32 × Mem) :=
  bnd (x4 + (1 : Int32)) fun y25 =>
  rec_89 m x1 x2 x3 y25
set_option maxRecDepth 100000 in
set_option maxHeartbeats 4000000 in
theorem bk_X1_numberStates_140 {N : Nat} {K : KT} {m' : Mem} {rec_47 : Mem → Int32 → Int32 → Option (Int32 × Mem)} {rec_89 : Mem → Int32 → Int32 → Int32 → Int32 → Option (Int32 × Mem)} {r : Int32} (hK : KOK K cX1_numberStates 6 RX1 wsX1_numberStates 2 0 46) (hR : KRet K (some .int) (some r) m') (hrec_47 : ∀ {m : Mem} {x1 : Int32} {x2 : Int32}, rec_47 m x1 x2 = some (r, m') → AW K 0 47 [(0, q_r 3), (1, q_i x1), (2, q_i x2)] [] m) (hrec_89 : ∀ {m : Mem} {x1 : Int32} {x2 : Int32} {x3 : Int32} {x4 : Int32}, rec_89 m x1 x2 x3 x4 = some (r, m') → AW K 0 89 [(0, q_r 3), (1, q_i x1), (2, q_i x2), (3, q_i x3), (4, q_i x4)] [] m) {m : Mem} {x1 : Int32} {x2 : Int32} {x3 : Int32} {x4 : Int32} (hF : B_X1_numberStates_140 N rec_47 rec_89 m x1 x2 x3 x4 = some (r, m')) : AW K 0 140 [(0, q_r 3), (1, q_i x1), (2, q_i x2), (3, q_i x3), (4, q_i x4)] [] m := by
  unfold B_X1_numberStates_140 at hF
  obtain ⟨y25, hy25, hF⟩ := bnd_some hF
  refine aw_iinc hK (cz := 1) 4 [(4, q_i y25), (0, q_r 3), (1, q_i x1), (2, q_i x2), (3, q_i x3)] (by decide) rfl rfl hy25 rfl dX1_numberStates_140 ?_
  refine aw_goto hK 89 rfl dX1_numberStates_143 ?_
  refine aw_sub [1, 2, 3, 4, 0] (lv' := [(0, q_r 3), (1, q_i x1), (2, q_i x2), (3, q_i x3), (4, q_i y25)]) rfl ?_
  exact hrec_89 hF
def S_X1_numberStates_89 (N : Nat) (rec_47 : Mem → Int32 → Int32 → Option (Int32 × Mem)) (rec_89 : Mem → Int32 → Int32 → Int32 → Int32 → Option (Int32 × Mem)) (m : Mem) (x1 : Int32) (x2 : Int32) (x3 : Int32) (x4 : Int32) : Option (Int32 × Mem) :=
  if x3 ≤ x4 then (
    bnd (x2 + (1 : Int32)) fun y16 =>
    rec_47 m x1 y16
  ) else (
    gd (inb x4 (alen 14)) <|
    bnd (P_X7_toOf (m 14 (ix x4))) fun y18 =>
    gd (inb y18 (alen 12)) <|
    if (m 12 (ix y18)) = (-1 : Int32) then (
      gd (inb y18 (alen 12)) <|
      bnd (mup m 12 (ix y18) x1) fun m21 =>
      gd (inb x1 (alen 9)) <|
      bnd (mup m21 9 (ix x1) y18) fun m23 =>
      bnd (x1 + (1 : Int32)) fun y24 =>
      B_X1_numberStates_140 N rec_47 rec_89 m23 y24 x2 x3 x4
    ) else (
      B_X1_numberStates_140 N rec_47 rec_89 m x1 x2 x3 x4
    )
  )
def L_X1_numberStates_89 (N : Nat) (rec_47 : Mem → Int32 → Int32 → Option (Int32 × Mem)) : Nat → Mem → Int32 → Int32 → Int32 → Int32 → Option (Int32 × Mem)
  | 0 => fun _ _ _ _ _ => none
  | f + 1 => S_X1_numberStates_89 N rec_47 (L_X1_numberStates_89 N rec_47 f)
set_option maxRecDepth 100000 in
set_option maxHeartbeats 4000000 in
theorem lp_X1_numberStates_89 {N : Nat} {K : KT} {m' : Mem} {rec_47 : Mem → Int32 → Int32 → Option (Int32 × Mem)} {r : Int32} (hK : KOK K cX1_numberStates 6 RX1 wsX1_numberStates 2 0 46) (hR : KRet K (some .int) (some r) m') (hrec_47 : ∀ {m : Mem} {x1 : Int32} {x2 : Int32}, rec_47 m x1 x2 = some (r, m') → AW K 0 47 [(0, q_r 3), (1, q_i x1), (2, q_i x2)] [] m) : ∀ (f : Nat) {m : Mem} {x1 : Int32} {x2 : Int32} {x3 : Int32} {x4 : Int32}, L_X1_numberStates_89 N rec_47 f m x1 x2 x3 x4 = some (r, m') → AW K 0 89 [(0, q_r 3), (1, q_i x1), (2, q_i x2), (3, q_i x3), (4, q_i x4)] [] m := by
  intro f
  induction f with
  | zero => intro m x1 x2 x3 x4 hF; cases hF
  | succ f hrec_89 =>
    intro m x1 x2 x3 x4 hF
    have hF : S_X1_numberStates_89 N rec_47 (L_X1_numberStates_89 N rec_47 f) m x1 x2 x3 x4 = some (r, m') := hF
    unfold S_X1_numberStates_89 at hF
    refine aw_iload hK 4 rfl dX1_numberStates_89 ?_
    refine aw_iload_n hK 3 rfl dX1_numberStates_91 ?_
    refine aw_icmp_ge hK 146 rfl dX1_numberStates_92 (fun hc => ?_) (fun hc => ?_)
    · have hF := if_t hF hc
      obtain ⟨y16, hy16, hF⟩ := bnd_some hF
      refine aw_iinc hK (cz := 1) 2 [(2, q_i y16), (0, q_r 3), (1, q_i x1), (3, q_i x3), (4, q_i x4)] (by decide) rfl rfl hy16 rfl dX1_numberStates_146 ?_
      refine aw_goto hK 47 rfl dX1_numberStates_149 ?_
      refine aw_sub [1, 2, 0] (lv' := [(0, q_r 3), (1, q_i x1), (2, q_i y16)]) rfl ?_
      exact hrec_47 hF
    · have hF := if_f hF hc
      refine aw_aload_n hK 0 rfl dX1_numberStates_95 ?_
      refine gf_1_12 hK rfl (13) rfl (List.mem_of_getElem? (i := 5) rfl) dX1_numberStates_96 ?_
      refine gf_0_0 hK rfl (14) rfl (List.mem_of_getElem? (i := 6) rfl) dX1_numberStates_99 ?_
      refine aw_iload hK 4 rfl dX1_numberStates_102 ?_
      obtain ⟨g17, hF⟩ := gd_some hF
      refine aw_iald hK rfl g17 dX1_numberStates_104 ?_
      refine aw_csN hK (as := [q_i (m 14 (ix x4))]) (host := "AffixWorks") (trp_X7_toOf (m 14 (ix x4)) _) gX1_numberStates_X7_toOf_n85 rfl (List.mem_of_getElem? (i := 11) rfl) (List.mem_of_getElem? (i := 13) rfl) (List.mem_of_getElem? (i := 21) rfl) (na := 1) (by decide +kernel) rfl ⟨by decide, by decide⟩ (Nat.zero_le _) (Nat.le_of_ble_eq_true rfl) dX1_numberStates_105 ?_
      obtain ⟨y18, hy18, hF⟩ := bnd_some hF
      refine aw_nm hy18 ?_
      refine aw_istore hK [(5, q_i y18), (0, q_r 3), (1, q_i x1), (2, q_i x2), (3, q_i x3), (4, q_i x4)] (by decide) rfl dX1_numberStates_108 ?_
      refine aw_aload_n hK 1 rfl dX1_numberStates_110 ?_
      refine gf_1_11 hK rfl (12) rfl (List.mem_of_getElem? (i := 2) rfl) dX1_numberStates_111 ?_
      refine aw_iload hK 0 rfl dX1_numberStates_114 ?_
      obtain ⟨g19, hF⟩ := gd_some hF
      refine aw_iald hK rfl g19 dX1_numberStates_116 ?_
      refine aw_iconst hK (-1) rfl dX1_numberStates_117 ?_
      refine aw_icmp_ne hK 140 rfl dX1_numberStates_118 (fun hc => ?_) (fun hc => ?_)
      · have hF := if_f hF hc
        refine aw_sub [1, 2, 3, 4, 5] (lv' := [(0, q_r 3), (1, q_i x1), (2, q_i x2), (3, q_i x3), (4, q_i x4)]) rfl ?_
        exact bk_X1_numberStates_140 hK hR hrec_47 hrec_89 hF
      · have hF := if_t hF hc
        refine aw_aload_n hK 1 rfl dX1_numberStates_121 ?_
        refine gf_1_11 hK rfl (12) rfl (List.mem_of_getElem? (i := 2) rfl) dX1_numberStates_122 ?_
        refine aw_iload hK 0 rfl dX1_numberStates_125 ?_
        refine aw_iload_n hK 2 rfl dX1_numberStates_127 ?_
        obtain ⟨g20, hF⟩ := gd_some hF
        refine aw_iast hK rfl g20 dX1_numberStates_128 ?_
        obtain ⟨m21, hm21, hF⟩ := bnd_some hF
        refine aw_mm hm21 ?_
        refine aw_aload_n hK 1 rfl dX1_numberStates_129 ?_
        refine gf_1_8 hK rfl (9) rfl (List.mem_of_getElem? (i := 4) rfl) dX1_numberStates_130 ?_
        refine aw_iload_n hK 2 rfl dX1_numberStates_133 ?_
        refine aw_iload hK 0 rfl dX1_numberStates_134 ?_
        obtain ⟨g22, hF⟩ := gd_some hF
        refine aw_iast hK rfl g22 dX1_numberStates_136 ?_
        obtain ⟨m23, hm23, hF⟩ := bnd_some hF
        refine aw_mm hm23 ?_
        obtain ⟨y24, hy24, hF⟩ := bnd_some hF
        refine aw_iinc hK (cz := 1) 2 [(1, q_i y24), (5, q_i y18), (0, q_r 3), (2, q_i x2), (3, q_i x3), (4, q_i x4)] (by decide) rfl rfl hy24 rfl dX1_numberStates_137 ?_
        refine aw_sub [2, 0, 3, 4, 5] (lv' := [(0, q_r 3), (1, q_i y24), (2, q_i x2), (3, q_i x3), (4, q_i x4)]) rfl ?_
        exact bk_X1_numberStates_140 hK hR hrec_47 hrec_89 hF
def S_X1_numberStates_47 (N : Nat) (rec_47 : Mem → Int32 → Int32 → Option (Int32 × Mem)) (m : Mem) (x1 : Int32) (x2 : Int32) : Option (Int32 × Mem) :=
  if x1 ≤ x2 then (
    B_X1_numberStates_152 N m x1
  ) else (
    if (32 : Int32) ≤ x2 then (
      B_X1_numberStates_152 N m x1
    ) else (
      gd (inb x2 (alen 9)) <|
      cal (F_X0_firstPlaceFrom N m 13 ((m 9 (ix x2)) + (1 : Int32))) fun r11 m10 =>
      gd (inb x2 (alen 9)) <|
      cal (F_X0_firstPlaceFrom N m10 13 (m10 9 (ix x2))) fun r15 m14 =>
      L_X1_numberStates_89 N rec_47 N m14 x1 x2 r11 r15
    )
  )
def L_X1_numberStates_47 (N : Nat) : Nat → Mem → Int32 → Int32 → Option (Int32 × Mem)
  | 0 => fun _ _ _ => none
  | f + 1 => S_X1_numberStates_47 N (L_X1_numberStates_47 N f)
set_option maxRecDepth 100000 in
set_option maxHeartbeats 4000000 in
theorem lp_X1_numberStates_47 {N : Nat} {K : KT} {m' : Mem} {r : Int32} (hK : KOK K cX1_numberStates 6 RX1 wsX1_numberStates 2 0 46) (hR : KRet K (some .int) (some r) m') : ∀ (f : Nat) {m : Mem} {x1 : Int32} {x2 : Int32}, L_X1_numberStates_47 N f m x1 x2 = some (r, m') → AW K 0 47 [(0, q_r 3), (1, q_i x1), (2, q_i x2)] [] m := by
  intro f
  induction f with
  | zero => intro m x1 x2 hF; cases hF
  | succ f hrec_47 =>
    intro m x1 x2 hF
    have hF : S_X1_numberStates_47 N (L_X1_numberStates_47 N f) m x1 x2 = some (r, m') := hF
    unfold S_X1_numberStates_47 at hF
    refine aw_iload_n hK 2 rfl dX1_numberStates_47 ?_
    refine aw_iload_n hK 1 rfl dX1_numberStates_48 ?_
    refine aw_icmp_ge hK 152 rfl dX1_numberStates_49 (fun hc => ?_) (fun hc => ?_)
    · have hF := if_t hF hc
      refine aw_sub [1] (lv' := [(1, q_i x1)]) rfl ?_
      exact bk_X1_numberStates_152 hK hR hF
    · have hF := if_f hF hc
      refine aw_iload_n hK 2 rfl dX1_numberStates_52 ?_
      refine aw_bipush hK (32) rfl dX1_numberStates_53 ?_
      refine aw_icmp_ge hK 152 rfl dX1_numberStates_55 (fun hc => ?_) (fun hc => ?_)
      · have hF := if_t hF hc
        refine aw_sub [1] (lv' := [(1, q_i x1)]) rfl ?_
        exact bk_X1_numberStates_152 hK hR hF
      · have hF := if_f hF hc
        refine aw_aload_n hK 0 rfl dX1_numberStates_58 ?_
        refine gf_1_12 hK rfl (13) rfl (List.mem_of_getElem? (i := 5) rfl) dX1_numberStates_59 ?_
        refine aw_aload_n hK 0 rfl dX1_numberStates_62 ?_
        refine gf_1_8 hK rfl (9) rfl (List.mem_of_getElem? (i := 4) rfl) dX1_numberStates_63 ?_
        refine aw_iload_n hK 2 rfl dX1_numberStates_66 ?_
        obtain ⟨g8, hF⟩ := gd_some hF
        refine aw_iald hK rfl g8 dX1_numberStates_67 ?_
        refine aw_iconst hK (1) rfl dX1_numberStates_68 ?_
        refine aw_iadd hK dX1_numberStates_69 ?_
        obtain ⟨r11, m10, h9, hF⟩ := cal_some hF
        refine aw_cv hK 0 (as := [q_i ((m 9 (ix x2)) + (1 : Int32))]) (tr_X0_firstPlaceFrom rfl h9) gX1_numberStates_X0_firstPlaceFrom rfl rfl rfl (by decide) (na := 1) (by decide +kernel) rfl ⟨by decide, by decide⟩ (Nat.zero_le _) (Nat.le_of_ble_eq_true rfl) dX1_numberStates_70 ?_
        refine aw_istore_n hK [(3, q_i r11), (0, q_r 3), (1, q_i x1), (2, q_i x2)] (by decide) rfl dX1_numberStates_73 ?_
        refine aw_aload_n hK 1 rfl dX1_numberStates_74 ?_
        refine gf_1_12 hK rfl (13) rfl (List.mem_of_getElem? (i := 5) rfl) dX1_numberStates_75 ?_
        refine aw_aload_n hK 1 rfl dX1_numberStates_78 ?_
        refine gf_1_8 hK rfl (9) rfl (List.mem_of_getElem? (i := 4) rfl) dX1_numberStates_79 ?_
        refine aw_iload_n hK 3 rfl dX1_numberStates_82 ?_
        obtain ⟨g12, hF⟩ := gd_some hF
        refine aw_iald hK rfl g12 dX1_numberStates_83 ?_
        obtain ⟨r15, m14, h13, hF⟩ := cal_some hF
        refine aw_cv hK 0 (as := [q_i (m10 9 (ix x2))]) (tr_X0_firstPlaceFrom rfl h13) gX1_numberStates_X0_firstPlaceFrom rfl rfl rfl (by decide) (na := 1) (by decide +kernel) rfl ⟨by decide, by decide⟩ (Nat.zero_le _) (Nat.le_of_ble_eq_true rfl) dX1_numberStates_84 ?_
        refine aw_istore hK [(4, q_i r15), (3, q_i r11), (0, q_r 3), (1, q_i x1), (2, q_i x2)] (by decide) rfl dX1_numberStates_87 ?_
        refine aw_sub [2, 3, 4, 1, 0] (lv' := [(0, q_r 3), (1, q_i x1), (2, q_i x2), (3, q_i r11), (4, q_i r15)]) rfl ?_
        exact lp_X1_numberStates_89 hK hR hrec_47 _ hF
def S_X1_numberStates_2 (N : Nat) (rec_2 : Mem → Int32 → Option (Int32 × Mem)) (m : Mem) (x1 : Int32) : Option (Int32 × Mem) :=
  if (m 3 3) ≤ x1 then (
    gd (inb (m 3 4) (alen 12)) <|
    bnd (mup m 12 (ix (m 3 4)) (0 : Int32)) fun m2 =>
    gd (inb (0 : Int32) (alen 9)) <|
    bnd (mup m2 9 (ix (0 : Int32)) (m2 3 4)) fun m4 =>
    L_X1_numberStates_47 N N m4 (1 : Int32) (0 : Int32)
  ) else (
    gd (inb x1 (alen 12)) <|
    bnd (mup m 12 (ix x1) (-1 : Int32)) fun m6 =>
    bnd (x1 + (1 : Int32)) fun y7 =>
    rec_2 m6 y7
  )
def L_X1_numberStates_2 (N : Nat) : Nat → Mem → Int32 → Option (Int32 × Mem)
  | 0 => fun _ _ => none
  | f + 1 => S_X1_numberStates_2 N (L_X1_numberStates_2 N f)
set_option maxRecDepth 100000 in
set_option maxHeartbeats 4000000 in
theorem lp_X1_numberStates_2 {N : Nat} {K : KT} {m' : Mem} {r : Int32} (hK : KOK K cX1_numberStates 6 RX1 wsX1_numberStates 2 0 46) (hR : KRet K (some .int) (some r) m') : ∀ (f : Nat) {m : Mem} {x1 : Int32}, L_X1_numberStates_2 N f m x1 = some (r, m') → AW K 0 2 [(0, q_r 3), (1, q_i x1)] [] m := by
  intro f
  induction f with
  | zero => intro m x1 hF; cases hF
  | succ f hrec_2 =>
    intro m x1 hF
    have hF : S_X1_numberStates_2 N (L_X1_numberStates_2 N f) m x1 = some (r, m') := hF
    unfold S_X1_numberStates_2 at hF
    refine aw_iload_n hK 1 rfl dX1_numberStates_2 ?_
    refine aw_aload_n hK 0 rfl dX1_numberStates_3 ?_
    refine gf_1_3 hK rfl (List.mem_of_getElem? (i := 1) rfl) dX1_numberStates_4 ?_
    refine aw_icmp_ge hK 23 rfl dX1_numberStates_7 (fun hc => ?_) (fun hc => ?_)
    · have hF := if_t hF hc
      refine aw_aload_n hK 0 rfl dX1_numberStates_23 ?_
      refine gf_1_11 hK rfl (12) rfl (List.mem_of_getElem? (i := 2) rfl) dX1_numberStates_24 ?_
      refine aw_aload_n hK 0 rfl dX1_numberStates_27 ?_
      refine gf_1_4 hK rfl (List.mem_of_getElem? (i := 3) rfl) dX1_numberStates_28 ?_
      refine aw_iconst hK (0) rfl dX1_numberStates_31 ?_
      obtain ⟨g1, hF⟩ := gd_some hF
      refine aw_iast hK rfl g1 dX1_numberStates_32 ?_
      obtain ⟨m2, hm2, hF⟩ := bnd_some hF
      refine aw_mm hm2 ?_
      refine aw_aload_n hK 0 rfl dX1_numberStates_33 ?_
      refine gf_1_8 hK rfl (9) rfl (List.mem_of_getElem? (i := 4) rfl) dX1_numberStates_34 ?_
      refine aw_iconst hK (0) rfl dX1_numberStates_37 ?_
      refine aw_aload_n hK 0 rfl dX1_numberStates_38 ?_
      refine gf_1_4 hK rfl (List.mem_of_getElem? (i := 3) rfl) dX1_numberStates_39 ?_
      obtain ⟨g3, hF⟩ := gd_some hF
      refine aw_iast hK rfl g3 dX1_numberStates_42 ?_
      obtain ⟨m4, hm4, hF⟩ := bnd_some hF
      refine aw_mm hm4 ?_
      refine aw_iconst hK (1) rfl dX1_numberStates_43 ?_
      refine aw_istore_n hK [(1, q_i (1 : Int32)), (0, q_r 3)] (by decide) rfl dX1_numberStates_44 ?_
      refine aw_iconst hK (0) rfl dX1_numberStates_45 ?_
      refine aw_istore_n hK [(2, q_i (0 : Int32)), (1, q_i (1 : Int32)), (0, q_r 3)] (by decide) rfl dX1_numberStates_46 ?_
      refine aw_sub [2, 1, 0] (lv' := [(0, q_r 3), (1, q_i (1 : Int32)), (2, q_i (0 : Int32))]) rfl ?_
      exact lp_X1_numberStates_47 hK hR _ hF
    · have hF := if_f hF hc
      refine aw_aload_n hK 0 rfl dX1_numberStates_10 ?_
      refine gf_1_11 hK rfl (12) rfl (List.mem_of_getElem? (i := 2) rfl) dX1_numberStates_11 ?_
      refine aw_iload_n hK 1 rfl dX1_numberStates_14 ?_
      refine aw_iconst hK (-1) rfl dX1_numberStates_15 ?_
      obtain ⟨g5, hF⟩ := gd_some hF
      refine aw_iast hK rfl g5 dX1_numberStates_16 ?_
      obtain ⟨m6, hm6, hF⟩ := bnd_some hF
      refine aw_mm hm6 ?_
      obtain ⟨y7, hy7, hF⟩ := bnd_some hF
      refine aw_iinc hK (cz := 1) 1 [(1, q_i y7), (0, q_r 3)] (by decide) rfl rfl hy7 rfl dX1_numberStates_17 ?_
      refine aw_goto hK 2 rfl dX1_numberStates_20 ?_
      refine aw_sub [1, 0] (lv' := [(0, q_r 3), (1, q_i y7)]) rfl ?_
      exact hrec_2 hF
def F_X1_numberStates (N : Nat) (m : Mem) : Option (Int32 × Mem) :=
  L_X1_numberStates_2 N N m (0 : Int32)
set_option maxRecDepth 100000 in
set_option maxHeartbeats 4000000 in
theorem tr_X1_numberStates {N : Nat} {m m' : Mem} {r : Int32} (hF : F_X1_numberStates N m = some (r, m')) : Tr yX1_numberStates wsX1_numberStates 2 46 [q_r 3] m (some r) m' := by
  refine tr_of (bytes := cX1_numberStates) (maxL := 6) (ret := (some .int)) (by decide) rfl (Nat.le_of_ble_eq_true rfl) (fun K hK hR => ?_)
  have hK : KOK K cX1_numberStates 6 RX1 wsX1_numberStates 2 0 46 := hK
  show AW K 0 0 [(0, q_r 3)] [] m
  unfold F_X1_numberStates at hF
  refine aw_iconst hK (0) rfl dX1_numberStates_0 ?_
  refine aw_istore_n hK [(1, q_i (0 : Int32)), (0, q_r 3)] (by decide) rfl dX1_numberStates_1 ?_
  refine aw_sub [1, 0] (lv' := [(0, q_r 3), (1, q_i (0 : Int32))]) rfl ?_
  exact lp_X1_numberStates_2 hK hR _ hF
def B_X1_writeEnds_36 (N : Nat) (rec_2 : Mem → Nat → Int32 → Option Mem) (m : Mem) (a1 : Nat) (x2 : Int32) : Option Mem :=
  bnd (x2 + (1 : Int32)) fun y4 =>
  rec_2 m a1 y4
set_option maxRecDepth 100000 in
set_option maxHeartbeats 4000000 in
theorem bk_X1_writeEnds_36 {N : Nat} {K : KT} {m' : Mem} {rec_2 : Mem → Nat → Int32 → Option Mem} (hK : KOK K cX1_writeEnds 3 RX1 wsX1_writeEnds 0 0 0) (hR : KRet K none none m') (hrec_2 : ∀ {m : Mem} {a1 : Nat} {x2 : Int32} (hk1 : knd a1 = 3), rec_2 m a1 x2 = some m' → AW K 0 2 [(0, q_r 3), (1, q_r a1), (2, q_i x2)] [] m) {m : Mem} {a1 : Nat} {x2 : Int32} (hk1 : knd a1 = 3) (hF : B_X1_writeEnds_36 N rec_2 m a1 x2 = some m') : AW K 0 36 [(0, q_r 3), (1, q_r a1), (2, q_i x2)] [] m := by
  unfold B_X1_writeEnds_36 at hF
  obtain ⟨y4, hy4, hF⟩ := bnd_some hF
  refine aw_iinc hK (cz := 1) 2 [(2, q_i y4), (0, q_r 3), (1, q_r a1)] (by decide) rfl rfl hy4 rfl dX1_writeEnds_36 ?_
  refine aw_goto hK 2 rfl dX1_writeEnds_39 ?_
  refine aw_sub [1, 2, 0] (lv' := [(0, q_r 3), (1, q_r a1), (2, q_i y4)]) rfl ?_
  exact hrec_2 hk1 hF
def S_X1_writeEnds_2 (N : Nat) (rec_2 : Mem → Nat → Int32 → Option Mem) (m : Mem) (a1 : Nat) (x2 : Int32) : Option Mem :=
  if (m a1 1) ≤ x2 then (
    some m
  ) else (
    gd (inb x2 (alen 9)) <|
    gd (inb (m 9 (ix x2)) (alen 6)) <|
    if (m 6 (ix (m 9 (ix x2)))) = (0 : Int32) then (
      B_X1_writeEnds_36 N rec_2 m a1 x2
    ) else (
      bnd (mup m a1 2 ((m a1 2) ||| (q_shl (1 : Int32) x2))) fun m3 =>
      B_X1_writeEnds_36 N rec_2 m3 a1 x2
    )
  )
def L_X1_writeEnds_2 (N : Nat) : Nat → Mem → Nat → Int32 → Option Mem
  | 0 => fun _ _ _ => none
  | f + 1 => S_X1_writeEnds_2 N (L_X1_writeEnds_2 N f)
set_option maxRecDepth 100000 in
set_option maxHeartbeats 4000000 in
theorem lp_X1_writeEnds_2 {N : Nat} {K : KT} {m' : Mem} (hK : KOK K cX1_writeEnds 3 RX1 wsX1_writeEnds 0 0 0) (hR : KRet K none none m') : ∀ (f : Nat) {m : Mem} {a1 : Nat} {x2 : Int32} (hk1 : knd a1 = 3), L_X1_writeEnds_2 N f m a1 x2 = some m' → AW K 0 2 [(0, q_r 3), (1, q_r a1), (2, q_i x2)] [] m := by
  intro f
  induction f with
  | zero => intro m a1 x2 hk1 hF; cases hF
  | succ f hrec_2 =>
    intro m a1 x2 hk1 hF
    have hF : S_X1_writeEnds_2 N (L_X1_writeEnds_2 N f) m a1 x2 = some m' := hF
    unfold S_X1_writeEnds_2 at hF
    refine aw_iload_n hK 2 rfl dX1_writeEnds_2 ?_
    refine aw_aload_n hK 1 rfl dX1_writeEnds_3 ?_
    refine gf_3_1 hK hk1 (List.mem_of_getElem? (i := 1) rfl) dX1_writeEnds_4 ?_
    refine aw_icmp_ge hK 42 rfl dX1_writeEnds_7 (fun hc => ?_) (fun hc => ?_)
    · have hF := if_t hF hc
      obtain rfl := Option.some.inj hF
      exact aw_vret hK hR dX1_writeEnds_42
    · have hF := if_f hF hc
      refine aw_aload_n hK 0 rfl dX1_writeEnds_10 ?_
      refine gf_1_2 hK rfl (6) rfl (List.mem_of_getElem? (i := 2) rfl) dX1_writeEnds_11 ?_
      refine aw_aload_n hK 0 rfl dX1_writeEnds_14 ?_
      refine gf_1_8 hK rfl (9) rfl (List.mem_of_getElem? (i := 3) rfl) dX1_writeEnds_15 ?_
      refine aw_iload_n hK 2 rfl dX1_writeEnds_18 ?_
      obtain ⟨g1, hF⟩ := gd_some hF
      refine aw_iald hK rfl g1 dX1_writeEnds_19 ?_
      obtain ⟨g2, hF⟩ := gd_some hF
      refine aw_zald hK rfl g2 dX1_writeEnds_20 ?_
      refine aw_if_eq hK 36 rfl dX1_writeEnds_21 (fun hc => ?_) (fun hc => ?_)
      · have hF := if_t hF hc
        refine aw_sub [0, 1, 2] (lv' := [(0, q_r 3), (1, q_r a1), (2, q_i x2)]) rfl ?_
        exact bk_X1_writeEnds_36 hK hR hrec_2 hk1 hF
      · have hF := if_f hF hc
        refine aw_aload_n hK 1 rfl dX1_writeEnds_24 ?_
        refine aw_dup hK rfl dX1_writeEnds_25 ?_
        refine gf_3_2 hK hk1 (List.mem_of_getElem? (i := 4) rfl) dX1_writeEnds_26 ?_
        refine aw_iconst hK (1) rfl dX1_writeEnds_29 ?_
        refine aw_iload_n hK 2 rfl dX1_writeEnds_30 ?_
        refine aw_ishl hK dX1_writeEnds_31 ?_
        refine aw_ior hK dX1_writeEnds_32 ?_
        refine pf_3_2 hK hk1 (List.mem_of_getElem? (i := 4) rfl) dX1_writeEnds_33 ?_
        obtain ⟨m3, hm3, hF⟩ := bnd_some hF
        refine aw_mm hm3 ?_
        refine aw_sub [0, 1, 2] (lv' := [(0, q_r 3), (1, q_r a1), (2, q_i x2)]) rfl ?_
        exact bk_X1_writeEnds_36 hK hR hrec_2 hk1 hF
def F_X1_writeEnds (N : Nat) (m : Mem) (a1 : Nat) : Option Mem :=
  L_X1_writeEnds_2 N N m a1 (0 : Int32)
set_option maxRecDepth 100000 in
set_option maxHeartbeats 4000000 in
theorem tr_X1_writeEnds {N : Nat} {m m' : Mem} {a1 : Nat} (hk1 : knd a1 = 3) (hF : F_X1_writeEnds N m a1 = some m') : Tr yX1_writeEnds wsX1_writeEnds 0 0 [q_r 3, q_r a1] m none m' := by
  refine tr_of (bytes := cX1_writeEnds) (maxL := 3) (ret := none) (by decide) rfl (Nat.le_of_ble_eq_true rfl) (fun K hK hR => ?_)
  have hK : KOK K cX1_writeEnds 3 RX1 wsX1_writeEnds 0 0 0 := hK
  show AW K 0 0 [(0, q_r 3), (1, q_r a1)] [] m
  unfold F_X1_writeEnds at hF
  refine aw_iconst hK (0) rfl dX1_writeEnds_0 ?_
  refine aw_istore_n hK [(2, q_i (0 : Int32)), (0, q_r 3), (1, q_r a1)] (by decide) rfl dX1_writeEnds_1 ?_
  refine aw_sub [1, 2, 0] (lv' := [(0, q_r 3), (1, q_r a1), (2, q_i (0 : Int32))]) rfl ?_
  exact lp_X1_writeEnds_2 hK hR _ hk1 hF
def P_X7_upperOf (x0 : Int32) : Int32 :=
  (q_ushr x0 (14 : Int32)) &&& (15 : Int32)
def F_X7_upperOf (m : Mem) (x0 : Int32) : Option (Int32 × Mem) :=
  some ((q_ushr x0 (14 : Int32)) &&& (15 : Int32), m)
set_option maxRecDepth 100000 in
set_option maxHeartbeats 4000000 in
theorem tr_X7_upperOf {m m' : Mem} {r : Int32} {x0 : Int32} (hF : F_X7_upperOf m x0 = some (r, m')) : Tr yX7_upperOf wsX7_upperOf 0 0 [q_i x0] m (some r) m' := by
  refine tr_of (bytes := cX7_upperOf) (maxL := 1) (ret := (some .int)) (by decide) rfl (Nat.le_of_ble_eq_true rfl) (fun K hK hR => ?_)
  have hK : KOK K cX7_upperOf 1 RX7 wsX7_upperOf 0 0 0 := hK
  show AW K 0 0 [(0, q_i x0)] [] m
  unfold F_X7_upperOf at hF
  refine aw_iload_n hK 0 rfl dX7_upperOf_0 ?_
  refine aw_bipush hK (14) rfl dX7_upperOf_1 ?_
  refine aw_iushr hK dX7_upperOf_3 ?_
  refine aw_bipush hK (15) rfl dX7_upperOf_4 ?_
  refine aw_iand hK dX7_upperOf_6 ?_
  obtain ⟨rfl, rfl⟩ := so_inj hF
  exact aw_iret hK hR rfl dX7_upperOf_7
theorem fp_X7_upperOf (m : Mem) (x0 : Int32) : F_X7_upperOf m x0 = some (P_X7_upperOf x0, m) := by
  simp only [F_X7_upperOf, P_X7_upperOf]
  repeat (first | rfl | split)
theorem trp_X7_upperOf (x0 : Int32) (m : Mem) : Tr yX7_upperOf wsX7_upperOf 0 0 [q_i x0] m (some (P_X7_upperOf x0)) m := tr_X7_upperOf (fp_X7_upperOf m x0)
def P_X7_lowerOf (x0 : Int32) : Int32 :=
  (q_ushr x0 (10 : Int32)) &&& (15 : Int32)
def F_X7_lowerOf (m : Mem) (x0 : Int32) : Option (Int32 × Mem) :=
  some ((q_ushr x0 (10 : Int32)) &&& (15 : Int32), m)
set_option maxRecDepth 100000 in
set_option maxHeartbeats 4000000 in
theorem tr_X7_lowerOf {m m' : Mem} {r : Int32} {x0 : Int32} (hF : F_X7_lowerOf m x0 = some (r, m')) : Tr yX7_lowerOf wsX7_lowerOf 0 0 [q_i x0] m (some r) m' := by
  refine tr_of (bytes := cX7_lowerOf) (maxL := 1) (ret := (some .int)) (by decide) rfl (Nat.le_of_ble_eq_true rfl) (fun K hK hR => ?_)
  have hK : KOK K cX7_lowerOf 1 RX7 wsX7_lowerOf 0 0 0 := hK
  show AW K 0 0 [(0, q_i x0)] [] m
  unfold F_X7_lowerOf at hF
  refine aw_iload_n hK 0 rfl dX7_lowerOf_0 ?_
  refine aw_bipush hK (10) rfl dX7_lowerOf_1 ?_
  refine aw_iushr hK dX7_lowerOf_3 ?_
  refine aw_bipush hK (15) rfl dX7_lowerOf_4 ?_
  refine aw_iand hK dX7_lowerOf_6 ?_
  obtain ⟨rfl, rfl⟩ := so_inj hF
  exact aw_iret hK hR rfl dX7_lowerOf_7
theorem fp_X7_lowerOf (m : Mem) (x0 : Int32) : F_X7_lowerOf m x0 = some (P_X7_lowerOf x0, m) := by
  simp only [F_X7_lowerOf, P_X7_lowerOf]
  repeat (first | rfl | split)
theorem trp_X7_lowerOf (x0 : Int32) (m : Mem) : Tr yX7_lowerOf wsX7_lowerOf 0 0 [q_i x0] m (some (P_X7_lowerOf x0)) m := tr_X7_lowerOf (fp_X7_lowerOf m x0)
def S_X1_writeArcs_2 (N : Nat) (rec_2 : Mem → Nat → Int32 → Option (Int32 × Mem)) (m : Mem) (a1 : Nat) (x2 : Int32) : Option (Int32 × Mem) :=
  if (m 13 2) ≤ x2 then (
    some ((1 : Int32), m)
  ) else (
    gd (inb x2 (alen 14)) <|
    bnd (m 14 (ix x2)) fun y2 =>
    gd (inb (P_X7_fromOf y2) (alen 12)) <|
    gd (inb (P_X7_toOf y2) (alen 12)) <|
    bnd (P_X7_packedArc (m 12 (ix (P_X7_fromOf y2))) (P_X7_upperOf y2) (P_X7_lowerOf y2) (m 12 (ix (P_X7_toOf y2)))) fun y5 =>
    gd (inb x2 (alen 15)) <|
    cal (F_X0_put N m (a1 + 1) y5 (m 15 (ix x2))) fun r9 m8 =>
    if r9 = (0 : Int32) then (
      some ((0 : Int32), m8)
    ) else (
      bnd (x2 + (1 : Int32)) fun y10 =>
      rec_2 m8 a1 y10
    )
  )
def L_X1_writeArcs_2 (N : Nat) : Nat → Mem → Nat → Int32 → Option (Int32 × Mem)
  | 0 => fun _ _ _ => none
  | f + 1 => S_X1_writeArcs_2 N (L_X1_writeArcs_2 N f)
set_option maxRecDepth 100000 in
set_option maxHeartbeats 4000000 in
theorem lp_X1_writeArcs_2 {N : Nat} {K : KT} {m' : Mem} {r : Int32} (hK : KOK K cX1_writeArcs 5 RX1 wsX1_writeArcs 2 0 49) (hR : KRet K (some .boolean) (some r) m') : ∀ (f : Nat) {m : Mem} {a1 : Nat} {x2 : Int32} (hk1 : knd a1 = 3), L_X1_writeArcs_2 N f m a1 x2 = some (r, m') → AW K 0 2 [(0, q_r 3), (1, q_r a1), (2, q_i x2)] [] m := by
  intro f
  induction f with
  | zero => intro m a1 x2 hk1 hF; cases hF
  | succ f hrec_2 =>
    intro m a1 x2 hk1 hF
    have hF : S_X1_writeArcs_2 N (L_X1_writeArcs_2 N f) m a1 x2 = some (r, m') := hF
    unfold S_X1_writeArcs_2 at hF
    refine aw_iload_n hK 2 rfl dX1_writeArcs_2 ?_
    refine aw_aload_n hK 0 rfl dX1_writeArcs_3 ?_
    refine gf_1_12 hK rfl (13) rfl (List.mem_of_getElem? (i := 1) rfl) dX1_writeArcs_4 ?_
    refine gf_0_2 hK rfl (List.mem_of_getElem? (i := 2) rfl) dX1_writeArcs_7 ?_
    refine aw_icmp_ge hK 83 rfl dX1_writeArcs_10 (fun hc => ?_) (fun hc => ?_)
    · have hF := if_t hF hc
      refine aw_iconst hK (1) rfl dX1_writeArcs_83 ?_
      obtain ⟨rfl, rfl⟩ := so_inj hF
      exact aw_iret hK hR rfl dX1_writeArcs_84
    · have hF := if_f hF hc
      refine aw_aload_n hK 0 rfl dX1_writeArcs_13 ?_
      refine gf_1_12 hK rfl (13) rfl (List.mem_of_getElem? (i := 1) rfl) dX1_writeArcs_14 ?_
      refine gf_0_0 hK rfl (14) rfl (List.mem_of_getElem? (i := 3) rfl) dX1_writeArcs_17 ?_
      refine aw_iload_n hK 2 rfl dX1_writeArcs_20 ?_
      obtain ⟨g1, hF⟩ := gd_some hF
      refine aw_iald hK rfl g1 dX1_writeArcs_21 ?_
      obtain ⟨y2, hy2, hF⟩ := bnd_some hF
      refine aw_nm hy2 ?_
      refine aw_istore_n hK [(3, q_i y2), (0, q_r 3), (1, q_r a1), (2, q_i x2)] (by decide) rfl dX1_writeArcs_22 ?_
      refine aw_aload_n hK 1 rfl dX1_writeArcs_23 ?_
      refine gf_1_11 hK rfl (12) rfl (List.mem_of_getElem? (i := 4) rfl) dX1_writeArcs_24 ?_
      refine aw_iload_n hK 0 rfl dX1_writeArcs_27 ?_
      refine aw_csN hK (as := [q_i y2]) (host := "AffixWorks") (trp_X7_fromOf y2 _) gX1_writeArcs_X7_fromOf_n74 rfl (List.mem_of_getElem? (i := 8) rfl) (List.mem_of_getElem? (i := 8) rfl) (List.mem_of_getElem? (i := 7) rfl) (na := 1) (by decide +kernel) rfl ⟨by decide, by decide⟩ (Nat.zero_le _) (Nat.le_of_ble_eq_true rfl) dX1_writeArcs_28 ?_
      obtain ⟨g3, hF⟩ := gd_some hF
      refine aw_iald hK rfl g3 dX1_writeArcs_31 ?_
      refine aw_iload_n hK 0 rfl dX1_writeArcs_32 ?_
      refine aw_csN hK (as := [q_i y2]) (host := "AffixWorks") (trp_X7_upperOf y2 _) gX1_writeArcs_X7_upperOf_n78 rfl (List.mem_of_getElem? (i := 9) rfl) (List.mem_of_getElem? (i := 8) rfl) (List.mem_of_getElem? (i := 10) rfl) (na := 1) (by decide +kernel) rfl ⟨by decide, by decide⟩ (Nat.zero_le _) (Nat.le_of_ble_eq_true rfl) dX1_writeArcs_33 ?_
      refine aw_iload_n hK 0 rfl dX1_writeArcs_36 ?_
      refine aw_csN hK (as := [q_i y2]) (host := "AffixWorks") (trp_X7_lowerOf y2 _) gX1_writeArcs_X7_lowerOf_n81 rfl (List.mem_of_getElem? (i := 10) rfl) (List.mem_of_getElem? (i := 8) rfl) (List.mem_of_getElem? (i := 12) rfl) (na := 1) (by decide +kernel) rfl ⟨by decide, by decide⟩ (Nat.zero_le _) (Nat.le_of_ble_eq_true rfl) dX1_writeArcs_37 ?_
      refine aw_aload_n hK 1 rfl dX1_writeArcs_40 ?_
      refine gf_1_11 hK rfl (12) rfl (List.mem_of_getElem? (i := 4) rfl) dX1_writeArcs_41 ?_
      refine aw_iload_n hK 0 rfl dX1_writeArcs_44 ?_
      refine aw_csN hK (as := [q_i y2]) (host := "AffixWorks") (trp_X7_toOf y2 _) gX1_writeArcs_X7_toOf_n85 rfl (List.mem_of_getElem? (i := 11) rfl) (List.mem_of_getElem? (i := 8) rfl) (List.mem_of_getElem? (i := 14) rfl) (na := 1) (by decide +kernel) rfl ⟨by decide, by decide⟩ (Nat.zero_le _) (Nat.le_of_ble_eq_true rfl) dX1_writeArcs_45 ?_
      obtain ⟨g4, hF⟩ := gd_some hF
      refine aw_iald hK rfl g4 dX1_writeArcs_48 ?_
      refine aw_csN hK (as := [q_i (m 12 (ix (P_X7_fromOf y2))), q_i (P_X7_upperOf y2), q_i (P_X7_lowerOf y2), q_i (m 12 (ix (P_X7_toOf y2)))]) (host := "AffixWorks") (trp_X7_packedArc (m 12 (ix (P_X7_fromOf y2))) (P_X7_upperOf y2) (P_X7_lowerOf y2) (m 12 (ix (P_X7_toOf y2))) _) gX1_writeArcs_X7_packedArc_n63 rfl (List.mem_of_getElem? (i := 7) rfl) (List.mem_of_getElem? (i := 8) rfl) (List.mem_of_getElem? (i := 16) rfl) (na := 4) (by decide +kernel) rfl ⟨by decide, by decide⟩ (Nat.zero_le _) (Nat.le_of_ble_eq_true rfl) dX1_writeArcs_49 ?_
      obtain ⟨y5, hy5, hF⟩ := bnd_some hF
      refine aw_nm hy5 ?_
      refine aw_istore hK [(4, q_i y5), (3, q_i y2), (0, q_r 3), (1, q_r a1), (2, q_i x2)] (by decide) rfl dX1_writeArcs_52 ?_
      refine aw_aload_n hK 3 rfl dX1_writeArcs_54 ?_
      refine gf_3_0 hK hk1 (a1 + 1) rfl (List.mem_of_getElem? (i := 5) rfl) dX1_writeArcs_55 ?_
      refine aw_iload hK 0 rfl dX1_writeArcs_58 ?_
      refine aw_aload_n hK 2 rfl dX1_writeArcs_60 ?_
      refine gf_1_12 hK rfl (13) rfl (List.mem_of_getElem? (i := 1) rfl) dX1_writeArcs_61 ?_
      refine gf_0_1 hK rfl (15) rfl (List.mem_of_getElem? (i := 6) rfl) dX1_writeArcs_64 ?_
      refine aw_iload_n hK 4 rfl dX1_writeArcs_67 ?_
      obtain ⟨g6, hF⟩ := gd_some hF
      refine aw_iald hK rfl g6 dX1_writeArcs_68 ?_
      obtain ⟨r9, m8, h7, hF⟩ := cal_some hF
      refine aw_cv hK 0 (as := [q_i y5, q_i (m 15 (ix x2))]) (tr_X0_put (kM1 hk1) h7) gX1_writeArcs_X0_put rfl rfl (kM1 hk1) (by decide) (na := 2) (by decide +kernel) rfl ⟨by decide, by decide⟩ (Nat.zero_le _) (Nat.le_of_ble_eq_true rfl) dX1_writeArcs_69 ?_
      refine aw_if_ne hK 77 rfl dX1_writeArcs_72 (fun hc => ?_) (fun hc => ?_)
      · have hF := if_f hF hc
        obtain ⟨y10, hy10, hF⟩ := bnd_some hF
        refine aw_iinc hK (cz := 1) 4 [(2, q_i y10), (4, q_i y5), (3, q_i y2), (0, q_r 3), (1, q_r a1)] (by decide) rfl rfl hy10 rfl dX1_writeArcs_77 ?_
        refine aw_goto hK 2 rfl dX1_writeArcs_80 ?_
        refine aw_sub [3, 4, 0] (lv' := [(0, q_r 3), (1, q_r a1), (2, q_i y10)]) rfl ?_
        exact hrec_2 hk1 hF
      · have hF := if_t hF hc
        refine aw_iconst hK (0) rfl dX1_writeArcs_75 ?_
        obtain ⟨rfl, rfl⟩ := so_inj hF
        exact aw_iret hK hR rfl dX1_writeArcs_76
def F_X1_writeArcs (N : Nat) (m : Mem) (a1 : Nat) : Option (Int32 × Mem) :=
  L_X1_writeArcs_2 N N m a1 (0 : Int32)
set_option maxRecDepth 100000 in
set_option maxHeartbeats 4000000 in
theorem tr_X1_writeArcs {N : Nat} {m m' : Mem} {r : Int32} {a1 : Nat} (hk1 : knd a1 = 3) (hF : F_X1_writeArcs N m a1 = some (r, m')) : Tr yX1_writeArcs wsX1_writeArcs 2 49 [q_r 3, q_r a1] m (some r) m' := by
  refine tr_of (bytes := cX1_writeArcs) (maxL := 5) (ret := (some .boolean)) (by decide) rfl (Nat.le_of_ble_eq_true rfl) (fun K hK hR => ?_)
  have hK : KOK K cX1_writeArcs 5 RX1 wsX1_writeArcs 2 0 49 := hK
  show AW K 0 0 [(0, q_r 3), (1, q_r a1)] [] m
  unfold F_X1_writeArcs at hF
  refine aw_iconst hK (0) rfl dX1_writeArcs_0 ?_
  refine aw_istore_n hK [(2, q_i (0 : Int32)), (0, q_r 3), (1, q_r a1)] (by decide) rfl dX1_writeArcs_1 ?_
  refine aw_sub [1, 2, 0] (lv' := [(0, q_r 3), (1, q_r a1), (2, q_i (0 : Int32))]) rfl ?_
  exact lp_X1_writeArcs_2 hK hR _ hk1 hF
def F_X1_trimInto (N : Nat) (m : Mem) (a1 : Nat) : Option (Int32 × Mem) :=
  bnd (mup m a1 1 (1 : Int32)) fun m1 =>
  bnd (mup m1 a1 2 (0 : Int32)) fun m2 =>
  bnd (mup m2 (a1 + 1) 2 (0 : Int32)) fun m3 =>
  calv (F_X1_markReached N m3) fun m5 =>
  cal (F_X1_markUseful N m5) fun r8 m7 =>
  if r8 ≤ (32 : Int32) then (
    gd (inb (m7 3 4) (alen 11)) <|
    if (m7 11 (ix (m7 3 4))) = (0 : Int32) then (
      some ((1 : Int32), m7)
    ) else (
      cal (F_X1_gatherUseful N m7) fun r12 m11 =>
      if r12 = (0 : Int32) then (
        some ((0 : Int32), m11)
      ) else (
        cal (F_X1_numberStates N m11) fun r15 m14 =>
        bnd (mup m14 a1 1 r15) fun m16 =>
        calv (F_X1_writeEnds N m16 a1) fun m18 =>
        cal (F_X1_writeArcs N m18 a1) fun r21 m20 =>
        gd (isb r21) <|
        some (r21, m20)
      )
    )
  ) else (
    some ((0 : Int32), m7)
  )
set_option maxRecDepth 100000 in
set_option maxHeartbeats 4000000 in
theorem tr_X1_trimInto {N : Nat} {m m' : Mem} {r : Int32} {a1 : Nat} (hk1 : knd a1 = 3) (hF : F_X1_trimInto N m a1 = some (r, m')) : Tr yX1_trimInto wsX1_trimInto 3 73 [q_r 3, q_r a1] m (some r) m' := by
  refine tr_of (bytes := cX1_trimInto) (maxL := 2) (ret := (some .boolean)) (by decide) rfl (Nat.le_of_ble_eq_true rfl) (fun K hK hR => ?_)
  have hK : KOK K cX1_trimInto 2 RX1 wsX1_trimInto 3 0 73 := hK
  show AW K 0 0 [(0, q_r 3), (1, q_r a1)] [] m
  unfold F_X1_trimInto at hF
  refine aw_aload_n hK 1 rfl dX1_trimInto_0 ?_
  refine aw_iconst hK (1) rfl dX1_trimInto_1 ?_
  refine pf_3_1 hK hk1 (List.mem_of_getElem? (i := 1) rfl) dX1_trimInto_2 ?_
  obtain ⟨m1, hm1, hF⟩ := bnd_some hF
  refine aw_mm hm1 ?_
  refine aw_aload_n hK 1 rfl dX1_trimInto_5 ?_
  refine aw_iconst hK (0) rfl dX1_trimInto_6 ?_
  refine pf_3_2 hK hk1 (List.mem_of_getElem? (i := 2) rfl) dX1_trimInto_7 ?_
  obtain ⟨m2, hm2, hF⟩ := bnd_some hF
  refine aw_mm hm2 ?_
  refine aw_aload_n hK 1 rfl dX1_trimInto_10 ?_
  refine gf_3_0 hK hk1 (a1 + 1) rfl (List.mem_of_getElem? (i := 3) rfl) dX1_trimInto_11 ?_
  refine aw_iconst hK (0) rfl dX1_trimInto_14 ?_
  refine pf_0_2 hK (kM1 hk1) (List.mem_of_getElem? (i := 4) rfl) dX1_trimInto_15 ?_
  obtain ⟨m3, hm3, hF⟩ := bnd_some hF
  refine aw_mm hm3 ?_
  refine aw_aload_n hK 0 rfl dX1_trimInto_18 ?_
  obtain ⟨m5, h4, hF⟩ := calv_some hF
  refine aw_cv hK 1 (as := []) (tr_X1_markReached h4) gX1_trimInto_X1_markReached rfl rfl rfl (by decide) (na := 0) (by decide +kernel) rfl ⟨by decide, by decide⟩ (Nat.zero_le _) (Nat.le_of_ble_eq_true rfl) dX1_trimInto_19 ?_
  refine aw_aload_n hK 0 rfl dX1_trimInto_22 ?_
  obtain ⟨r8, m7, h6, hF⟩ := cal_some hF
  refine aw_cv hK 1 (as := []) (tr_X1_markUseful h6) gX1_trimInto_X1_markUseful rfl rfl rfl (by decide) (na := 0) (by decide +kernel) rfl ⟨by decide, by decide⟩ (Nat.zero_le _) (Nat.le_of_ble_eq_true rfl) dX1_trimInto_23 ?_
  refine aw_bipush hK (32) rfl dX1_trimInto_26 ?_
  refine aw_icmp_le hK 33 rfl dX1_trimInto_28 (fun hc => ?_) (fun hc => ?_)
  · have hF := if_t hF hc
    refine aw_aload_n hK 0 rfl dX1_trimInto_33 ?_
    refine gf_1_10 hK rfl (11) rfl (List.mem_of_getElem? (i := 5) rfl) dX1_trimInto_34 ?_
    refine aw_aload_n hK 0 rfl dX1_trimInto_37 ?_
    refine gf_1_4 hK rfl (List.mem_of_getElem? (i := 6) rfl) dX1_trimInto_38 ?_
    obtain ⟨g9, hF⟩ := gd_some hF
    refine aw_zald hK rfl g9 dX1_trimInto_41 ?_
    refine aw_if_ne hK 47 rfl dX1_trimInto_42 (fun hc => ?_) (fun hc => ?_)
    · have hF := if_f hF hc
      refine aw_aload_n hK 0 rfl dX1_trimInto_47 ?_
      obtain ⟨r12, m11, h10, hF⟩ := cal_some hF
      refine aw_cv hK 1 (as := []) (tr_X1_gatherUseful h10) gX1_trimInto_X1_gatherUseful rfl rfl rfl (by decide) (na := 0) (by decide +kernel) rfl ⟨by decide, by decide⟩ (Nat.zero_le _) (Nat.le_of_ble_eq_true rfl) dX1_trimInto_48 ?_
      refine aw_if_ne hK 56 rfl dX1_trimInto_51 (fun hc => ?_) (fun hc => ?_)
      · have hF := if_f hF hc
        refine aw_aload_n hK 1 rfl dX1_trimInto_56 ?_
        refine aw_aload_n hK 0 rfl dX1_trimInto_57 ?_
        obtain ⟨r15, m14, h13, hF⟩ := cal_some hF
        refine aw_cv hK 1 (as := []) (tr_X1_numberStates h13) gX1_trimInto_X1_numberStates rfl rfl rfl (by decide) (na := 0) (by decide +kernel) rfl ⟨by decide, by decide⟩ (Nat.zero_le _) (Nat.le_of_ble_eq_true rfl) dX1_trimInto_58 ?_
        refine pf_3_1 hK hk1 (List.mem_of_getElem? (i := 1) rfl) dX1_trimInto_61 ?_
        obtain ⟨m16, hm16, hF⟩ := bnd_some hF
        refine aw_mm hm16 ?_
        refine aw_aload_n hK 0 rfl dX1_trimInto_64 ?_
        refine aw_aload_n hK 1 rfl dX1_trimInto_65 ?_
        obtain ⟨m18, h17, hF⟩ := calv_some hF
        refine aw_cv hK 1 (as := [q_r a1]) (tr_X1_writeEnds hk1 h17) gX1_trimInto_X1_writeEnds rfl rfl rfl (by decide) (na := 1) (by decide +kernel) rfl ⟨by decide, by decide⟩ (Nat.zero_le _) (Nat.le_of_ble_eq_true rfl) dX1_trimInto_66 ?_
        refine aw_aload_n hK 0 rfl dX1_trimInto_69 ?_
        refine aw_aload_n hK 1 rfl dX1_trimInto_70 ?_
        obtain ⟨r21, m20, h19, hF⟩ := cal_some hF
        refine aw_cv hK 1 (as := [q_r a1]) (tr_X1_writeArcs hk1 h19) gX1_trimInto_X1_writeArcs rfl rfl rfl (by decide) (na := 1) (by decide +kernel) rfl ⟨by decide, by decide⟩ (Nat.zero_le _) (Nat.le_of_ble_eq_true rfl) dX1_trimInto_71 ?_
        obtain ⟨g22, hF⟩ := gd_some hF
        obtain ⟨rfl, rfl⟩ := so_inj hF
        exact aw_iret hK hR (isb_narrow g22) dX1_trimInto_74
      · have hF := if_t hF hc
        refine aw_iconst hK (0) rfl dX1_trimInto_54 ?_
        obtain ⟨rfl, rfl⟩ := so_inj hF
        exact aw_iret hK hR rfl dX1_trimInto_55
    · have hF := if_t hF hc
      refine aw_iconst hK (1) rfl dX1_trimInto_45 ?_
      obtain ⟨rfl, rfl⟩ := so_inj hF
      exact aw_iret hK hR rfl dX1_trimInto_46
  · have hF := if_f hF hc
    refine aw_iconst hK (0) rfl dX1_trimInto_31 ?_
    obtain ⟨rfl, rfl⟩ := so_inj hF
    exact aw_iret hK hR rfl dX1_trimInto_32
def S_X1_addArcsOf_2 (N : Nat) (rec_2 : Mem → Nat → Int32 → Int32 → Option Mem) (m : Mem) (a1 : Nat) (x2 : Int32) (x3 : Int32) : Option Mem :=
  if (m (a1 + 1) 2) ≤ x3 then (
    some m
  ) else (
    gd (inb x3 (alen ((a1 + 1) + 1))) <|
    bnd (m ((a1 + 1) + 1) (ix x3)) fun y2 =>
    gd (inb x3 (alen ((a1 + 1) + 2))) <|
    calv (F_X1_addArc N m (x2 + (P_X7_fromOf y2)) (P_X7_upperOf y2) (P_X7_lowerOf y2) (m ((a1 + 1) + 2) (ix x3)) (x2 + (P_X7_toOf y2))) fun m5 =>
    bnd (x3 + (1 : Int32)) fun y6 =>
    rec_2 m5 a1 x2 y6
  )
def L_X1_addArcsOf_2 (N : Nat) : Nat → Mem → Nat → Int32 → Int32 → Option Mem
  | 0 => fun _ _ _ _ => none
  | f + 1 => S_X1_addArcsOf_2 N (L_X1_addArcsOf_2 N f)
set_option maxRecDepth 100000 in
set_option maxHeartbeats 4000000 in
theorem lp_X1_addArcsOf_2 {N : Nat} {K : KT} {m' : Mem} (hK : KOK K cX1_addArcsOf 5 RX1 wsX1_addArcsOf 2 0 48) (hR : KRet K none none m') : ∀ (f : Nat) {m : Mem} {a1 : Nat} {x2 : Int32} {x3 : Int32} (hk1 : knd a1 = 3), L_X1_addArcsOf_2 N f m a1 x2 x3 = some m' → AW K 0 2 [(0, q_r 3), (1, q_r a1), (2, q_i x2), (3, q_i x3)] [] m := by
  intro f
  induction f with
  | zero => intro m a1 x2 x3 hk1 hF; cases hF
  | succ f hrec_2 =>
    intro m a1 x2 x3 hk1 hF
    have hF : S_X1_addArcsOf_2 N (L_X1_addArcsOf_2 N f) m a1 x2 x3 = some m' := hF
    unfold S_X1_addArcsOf_2 at hF
    refine aw_iload_n hK 3 rfl dX1_addArcsOf_2 ?_
    refine aw_aload_n hK 1 rfl dX1_addArcsOf_3 ?_
    refine gf_3_0 hK hk1 (a1 + 1) rfl (List.mem_of_getElem? (i := 1) rfl) dX1_addArcsOf_4 ?_
    refine gf_0_2 hK (kM1 hk1) (List.mem_of_getElem? (i := 2) rfl) dX1_addArcsOf_7 ?_
    refine aw_icmp_ge hK 67 rfl dX1_addArcsOf_10 (fun hc => ?_) (fun hc => ?_)
    · have hF := if_t hF hc
      obtain rfl := Option.some.inj hF
      exact aw_vret hK hR dX1_addArcsOf_67
    · have hF := if_f hF hc
      refine aw_aload_n hK 1 rfl dX1_addArcsOf_13 ?_
      refine gf_3_0 hK hk1 (a1 + 1) rfl (List.mem_of_getElem? (i := 1) rfl) dX1_addArcsOf_14 ?_
      refine gf_0_0 hK (kM1 hk1) ((a1 + 1) + 1) rfl (List.mem_of_getElem? (i := 3) rfl) dX1_addArcsOf_17 ?_
      refine aw_iload_n hK 3 rfl dX1_addArcsOf_20 ?_
      obtain ⟨g1, hF⟩ := gd_some hF
      refine aw_iald hK (kA1 (kM1 hk1)) g1 dX1_addArcsOf_21 ?_
      obtain ⟨y2, hy2, hF⟩ := bnd_some hF
      refine aw_nm hy2 ?_
      refine aw_istore hK [(4, q_i y2), (0, q_r 3), (1, q_r a1), (2, q_i x2), (3, q_i x3)] (by decide) rfl dX1_addArcsOf_22 ?_
      refine aw_aload_n hK 1 rfl dX1_addArcsOf_24 ?_
      refine aw_iload_n hK 3 rfl dX1_addArcsOf_25 ?_
      refine aw_iload hK 0 rfl dX1_addArcsOf_26 ?_
      refine aw_csN hK (as := [q_i y2]) (host := "AffixWorks") (trp_X7_fromOf y2 _) gX1_addArcsOf_X7_fromOf_n74 rfl (List.mem_of_getElem? (i := 8) rfl) (List.mem_of_getElem? (i := 6) rfl) (List.mem_of_getElem? (i := 5) rfl) (na := 1) (by decide +kernel) rfl ⟨by decide, by decide⟩ (Nat.zero_le _) (Nat.le_of_ble_eq_true rfl) dX1_addArcsOf_28 ?_
      refine aw_iadd hK dX1_addArcsOf_31 ?_
      refine aw_iload hK 0 rfl dX1_addArcsOf_32 ?_
      refine aw_csN hK (as := [q_i y2]) (host := "AffixWorks") (trp_X7_upperOf y2 _) gX1_addArcsOf_X7_upperOf_n78 rfl (List.mem_of_getElem? (i := 9) rfl) (List.mem_of_getElem? (i := 6) rfl) (List.mem_of_getElem? (i := 8) rfl) (na := 1) (by decide +kernel) rfl ⟨by decide, by decide⟩ (Nat.zero_le _) (Nat.le_of_ble_eq_true rfl) dX1_addArcsOf_34 ?_
      refine aw_iload hK 0 rfl dX1_addArcsOf_37 ?_
      refine aw_csN hK (as := [q_i y2]) (host := "AffixWorks") (trp_X7_lowerOf y2 _) gX1_addArcsOf_X7_lowerOf_n81 rfl (List.mem_of_getElem? (i := 10) rfl) (List.mem_of_getElem? (i := 6) rfl) (List.mem_of_getElem? (i := 10) rfl) (na := 1) (by decide +kernel) rfl ⟨by decide, by decide⟩ (Nat.zero_le _) (Nat.le_of_ble_eq_true rfl) dX1_addArcsOf_39 ?_
      refine aw_aload_n hK 2 rfl dX1_addArcsOf_42 ?_
      refine gf_3_0 hK hk1 (a1 + 1) rfl (List.mem_of_getElem? (i := 1) rfl) dX1_addArcsOf_43 ?_
      refine gf_0_1 hK (kM1 hk1) ((a1 + 1) + 2) rfl (List.mem_of_getElem? (i := 4) rfl) dX1_addArcsOf_46 ?_
      refine aw_iload_n hK 4 rfl dX1_addArcsOf_49 ?_
      obtain ⟨g3, hF⟩ := gd_some hF
      refine aw_iald hK (kA2 (kM1 hk1)) g3 dX1_addArcsOf_50 ?_
      refine aw_iload_n hK 3 rfl dX1_addArcsOf_51 ?_
      refine aw_iload hK 0 rfl dX1_addArcsOf_52 ?_
      refine aw_csN hK (as := [q_i y2]) (host := "AffixWorks") (trp_X7_toOf y2 _) gX1_addArcsOf_X7_toOf_n85 rfl (List.mem_of_getElem? (i := 11) rfl) (List.mem_of_getElem? (i := 6) rfl) (List.mem_of_getElem? (i := 12) rfl) (na := 1) (by decide +kernel) rfl ⟨by decide, by decide⟩ (Nat.zero_le _) (Nat.le_of_ble_eq_true rfl) dX1_addArcsOf_54 ?_
      refine aw_iadd hK dX1_addArcsOf_57 ?_
      obtain ⟨m5, h4, hF⟩ := calv_some hF
      refine aw_cv hK 1 (as := [q_i (x2 + (P_X7_fromOf y2)), q_i (P_X7_upperOf y2), q_i (P_X7_lowerOf y2), q_i (m ((a1 + 1) + 2) (ix x3)), q_i (x2 + (P_X7_toOf y2))]) (tr_X1_addArc h4) gX1_addArcsOf_X1_addArc rfl rfl rfl (by decide) (na := 5) (by decide +kernel) rfl ⟨by decide, by decide⟩ (Nat.zero_le _) (Nat.le_of_ble_eq_true rfl) dX1_addArcsOf_58 ?_
      obtain ⟨y6, hy6, hF⟩ := bnd_some hF
      refine aw_iinc hK (cz := 1) 4 [(3, q_i y6), (4, q_i y2), (0, q_r 3), (1, q_r a1), (2, q_i x2)] (by decide) rfl rfl hy6 rfl dX1_addArcsOf_61 ?_
      refine aw_goto hK 2 rfl dX1_addArcsOf_64 ?_
      refine aw_sub [2, 3, 4, 0] (lv' := [(0, q_r 3), (1, q_r a1), (2, q_i x2), (3, q_i y6)]) rfl ?_
      exact hrec_2 hk1 hF
def F_X1_addArcsOf (N : Nat) (m : Mem) (a1 : Nat) (x2 : Int32) : Option Mem :=
  L_X1_addArcsOf_2 N N m a1 x2 (0 : Int32)
set_option maxRecDepth 100000 in
set_option maxHeartbeats 4000000 in
theorem tr_X1_addArcsOf {N : Nat} {m m' : Mem} {a1 : Nat} {x2 : Int32} (hk1 : knd a1 = 3) (hF : F_X1_addArcsOf N m a1 x2 = some m') : Tr yX1_addArcsOf wsX1_addArcsOf 2 48 [q_r 3, q_r a1, q_i x2] m none m' := by
  refine tr_of (bytes := cX1_addArcsOf) (maxL := 5) (ret := none) (by decide) rfl (Nat.le_of_ble_eq_true rfl) (fun K hK hR => ?_)
  have hK : KOK K cX1_addArcsOf 5 RX1 wsX1_addArcsOf 2 0 48 := hK
  show AW K 0 0 [(0, q_r 3), (1, q_r a1), (2, q_i x2)] [] m
  unfold F_X1_addArcsOf at hF
  refine aw_iconst hK (0) rfl dX1_addArcsOf_0 ?_
  refine aw_istore_n hK [(3, q_i (0 : Int32)), (0, q_r 3), (1, q_r a1), (2, q_i x2)] (by decide) rfl dX1_addArcsOf_1 ?_
  refine aw_sub [1, 2, 3, 0] (lv' := [(0, q_r 3), (1, q_r a1), (2, q_i x2), (3, q_i (0 : Int32))]) rfl ?_
  exact lp_X1_addArcsOf_2 hK hR _ hk1 hF
def P_X7_holds (x0 : Int32) (x1 : Int32) : Int32 :=
  if ((q_ushr x0 x1) &&& (1 : Int32)) = (1 : Int32) then (
    (1 : Int32)
  ) else (
    (0 : Int32)
  )
def F_X7_holds (m : Mem) (x0 : Int32) (x1 : Int32) : Option (Int32 × Mem) :=
  if ((q_ushr x0 x1) &&& (1 : Int32)) = (1 : Int32) then (
    some ((1 : Int32), m)
  ) else (
    some ((0 : Int32), m)
  )
set_option maxRecDepth 100000 in
set_option maxHeartbeats 4000000 in
theorem tr_X7_holds {m m' : Mem} {r : Int32} {x0 : Int32} {x1 : Int32} (hF : F_X7_holds m x0 x1 = some (r, m')) : Tr yX7_holds wsX7_holds 0 0 [q_i x0, q_i x1] m (some r) m' := by
  refine tr_of (bytes := cX7_holds) (maxL := 2) (ret := (some .boolean)) (by decide) rfl (Nat.le_of_ble_eq_true rfl) (fun K hK hR => ?_)
  have hK : KOK K cX7_holds 2 RX7 wsX7_holds 0 0 0 := hK
  show AW K 0 0 [(0, q_i x0), (1, q_i x1)] [] m
  unfold F_X7_holds at hF
  refine aw_iload_n hK 0 rfl dX7_holds_0 ?_
  refine aw_iload_n hK 1 rfl dX7_holds_1 ?_
  refine aw_iushr hK dX7_holds_2 ?_
  refine aw_iconst hK (1) rfl dX7_holds_3 ?_
  refine aw_iand hK dX7_holds_4 ?_
  refine aw_iconst hK (1) rfl dX7_holds_5 ?_
  refine aw_icmp_ne hK 13 rfl dX7_holds_6 (fun hc => ?_) (fun hc => ?_)
  · have hF := if_f hF hc
    refine aw_iconst hK (0) rfl dX7_holds_13 ?_
    obtain ⟨rfl, rfl⟩ := so_inj hF
    exact aw_iret hK hR rfl dX7_holds_14
  · have hF := if_t hF hc
    refine aw_iconst hK (1) rfl dX7_holds_9 ?_
    refine aw_goto hK 14 rfl dX7_holds_10 ?_
    obtain ⟨rfl, rfl⟩ := so_inj hF
    exact aw_iret hK hR rfl dX7_holds_14
theorem pb_X7_holds (x0 : Int32) (x1 : Int32) : isb (P_X7_holds x0 x1) = true := by
  simp only [P_X7_holds]
  repeat (first | rfl | split)
theorem fp_X7_holds (m : Mem) (x0 : Int32) (x1 : Int32) : F_X7_holds m x0 x1 = some (P_X7_holds x0 x1, m) := by
  simp only [F_X7_holds, P_X7_holds]
  repeat (first | rfl | split)
theorem trp_X7_holds (x0 : Int32) (x1 : Int32) (m : Mem) : Tr yX7_holds wsX7_holds 0 0 [q_i x0, q_i x1] m (some (P_X7_holds x0 x1)) m := tr_X7_holds (fp_X7_holds m x0 x1)
def B_X1_leadFromEndsOf_38 (N : Nat) (rec_3 : Mem → Nat → Int32 → Int32 → Int32 → Option Mem) (m : Mem) (a1 : Nat) (x2 : Int32) (x3 : Int32) (x4 : Int32) : Option Mem :=
  bnd (x4 + (1 : Int32)) fun y3 =>
  rec_3 m a1 x2 x3 y3
set_option maxRecDepth 100000 in
set_option maxHeartbeats 4000000 in
theorem bk_X1_leadFromEndsOf_38 {N : Nat} {K : KT} {m' : Mem} {rec_3 : Mem → Nat → Int32 → Int32 → Int32 → Option Mem} (hK : KOK K cX1_leadFromEndsOf 5 RX1 wsX1_leadFromEndsOf 2 0 48) (hR : KRet K none none m') (hrec_3 : ∀ {m : Mem} {a1 : Nat} {x2 : Int32} {x3 : Int32} {x4 : Int32} (hk1 : knd a1 = 3), rec_3 m a1 x2 x3 x4 = some m' → AW K 0 3 [(0, q_r 3), (1, q_r a1), (2, q_i x2), (3, q_i x3), (4, q_i x4)] [] m) {m : Mem} {a1 : Nat} {x2 : Int32} {x3 : Int32} {x4 : Int32} (hk1 : knd a1 = 3) (hF : B_X1_leadFromEndsOf_38 N rec_3 m a1 x2 x3 x4 = some m') : AW K 0 38 [(0, q_r 3), (1, q_r a1), (2, q_i x2), (3, q_i x3), (4, q_i x4)] [] m := by
  unfold B_X1_leadFromEndsOf_38 at hF
  obtain ⟨y3, hy3, hF⟩ := bnd_some hF
  refine aw_iinc hK (cz := 1) 4 [(4, q_i y3), (0, q_r 3), (1, q_r a1), (2, q_i x2), (3, q_i x3)] (by decide) rfl rfl hy3 rfl dX1_leadFromEndsOf_38 ?_
  refine aw_goto hK 3 rfl dX1_leadFromEndsOf_41 ?_
  refine aw_sub [1, 2, 3, 4, 0] (lv' := [(0, q_r 3), (1, q_r a1), (2, q_i x2), (3, q_i x3), (4, q_i y3)]) rfl ?_
  exact hrec_3 hk1 hF
def S_X1_leadFromEndsOf_3 (N : Nat) (rec_3 : Mem → Nat → Int32 → Int32 → Int32 → Option Mem) (m : Mem) (a1 : Nat) (x2 : Int32) (x3 : Int32) (x4 : Int32) : Option Mem :=
  if (m a1 1) ≤ x4 then (
    some m
  ) else (
    if (P_X7_holds (m a1 2) x4) = (0 : Int32) then (
      B_X1_leadFromEndsOf_38 N rec_3 m a1 x2 x3 x4
    ) else (
      calv (F_X1_addArc N m (x2 + x4) (8 : Int32) (8 : Int32) (0 : Int32) x3) fun m2 =>
      B_X1_leadFromEndsOf_38 N rec_3 m2 a1 x2 x3 x4
    )
  )
def L_X1_leadFromEndsOf_3 (N : Nat) : Nat → Mem → Nat → Int32 → Int32 → Int32 → Option Mem
  | 0 => fun _ _ _ _ _ => none
  | f + 1 => S_X1_leadFromEndsOf_3 N (L_X1_leadFromEndsOf_3 N f)
set_option maxRecDepth 100000 in
set_option maxHeartbeats 4000000 in
theorem lp_X1_leadFromEndsOf_3 {N : Nat} {K : KT} {m' : Mem} (hK : KOK K cX1_leadFromEndsOf 5 RX1 wsX1_leadFromEndsOf 2 0 48) (hR : KRet K none none m') : ∀ (f : Nat) {m : Mem} {a1 : Nat} {x2 : Int32} {x3 : Int32} {x4 : Int32} (hk1 : knd a1 = 3), L_X1_leadFromEndsOf_3 N f m a1 x2 x3 x4 = some m' → AW K 0 3 [(0, q_r 3), (1, q_r a1), (2, q_i x2), (3, q_i x3), (4, q_i x4)] [] m := by
  intro f
  induction f with
  | zero => intro m a1 x2 x3 x4 hk1 hF; cases hF
  | succ f hrec_3 =>
    intro m a1 x2 x3 x4 hk1 hF
    have hF : S_X1_leadFromEndsOf_3 N (L_X1_leadFromEndsOf_3 N f) m a1 x2 x3 x4 = some m' := hF
    unfold S_X1_leadFromEndsOf_3 at hF
    refine aw_iload hK 4 rfl dX1_leadFromEndsOf_3 ?_
    refine aw_aload_n hK 1 rfl dX1_leadFromEndsOf_5 ?_
    refine gf_3_1 hK hk1 (List.mem_of_getElem? (i := 1) rfl) dX1_leadFromEndsOf_6 ?_
    refine aw_icmp_ge hK 44 rfl dX1_leadFromEndsOf_9 (fun hc => ?_) (fun hc => ?_)
    · have hF := if_t hF hc
      obtain rfl := Option.some.inj hF
      exact aw_vret hK hR dX1_leadFromEndsOf_44
    · have hF := if_f hF hc
      refine aw_aload_n hK 1 rfl dX1_leadFromEndsOf_12 ?_
      refine gf_3_2 hK hk1 (List.mem_of_getElem? (i := 2) rfl) dX1_leadFromEndsOf_13 ?_
      refine aw_iload hK 4 rfl dX1_leadFromEndsOf_16 ?_
      refine aw_csN hK (as := [q_i (m a1 2), q_i x4]) (host := "AffixWorks") (trp_X7_holds (m a1 2) x4 _) gX1_leadFromEndsOf_X7_holds_n95 rfl (List.mem_of_getElem? (i := 12) rfl) (List.mem_of_getElem? (i := 4) rfl) (List.mem_of_getElem? (i := 3) rfl) (na := 2) (by decide +kernel) rfl ⟨by decide, by decide⟩ (Nat.zero_le _) (Nat.le_of_ble_eq_true rfl) dX1_leadFromEndsOf_18 ?_
      refine aw_if_eq hK 38 rfl dX1_leadFromEndsOf_21 (fun hc => ?_) (fun hc => ?_)
      · have hF := if_t hF hc
        refine aw_sub [0, 1, 2, 3, 4] (lv' := [(0, q_r 3), (1, q_r a1), (2, q_i x2), (3, q_i x3), (4, q_i x4)]) rfl ?_
        exact bk_X1_leadFromEndsOf_38 hK hR hrec_3 hk1 hF
      · have hF := if_f hF hc
        refine aw_aload_n hK 0 rfl dX1_leadFromEndsOf_24 ?_
        refine aw_iload_n hK 2 rfl dX1_leadFromEndsOf_25 ?_
        refine aw_iload hK 4 rfl dX1_leadFromEndsOf_26 ?_
        refine aw_iadd hK dX1_leadFromEndsOf_28 ?_
        refine aw_bipush hK (8) rfl dX1_leadFromEndsOf_29 ?_
        refine aw_bipush hK (8) rfl dX1_leadFromEndsOf_31 ?_
        refine aw_iconst hK (0) rfl dX1_leadFromEndsOf_33 ?_
        refine aw_iload_n hK 3 rfl dX1_leadFromEndsOf_34 ?_
        obtain ⟨m2, h1, hF⟩ := calv_some hF
        refine aw_cv hK 1 (as := [q_i (x2 + x4), q_i (8 : Int32), q_i (8 : Int32), q_i (0 : Int32), q_i x3]) (tr_X1_addArc h1) gX1_leadFromEndsOf_X1_addArc rfl rfl rfl (by decide) (na := 5) (by decide +kernel) rfl ⟨by decide, by decide⟩ (Nat.zero_le _) (Nat.le_of_ble_eq_true rfl) dX1_leadFromEndsOf_35 ?_
        refine aw_sub [0, 1, 2, 3, 4] (lv' := [(0, q_r 3), (1, q_r a1), (2, q_i x2), (3, q_i x3), (4, q_i x4)]) rfl ?_
        exact bk_X1_leadFromEndsOf_38 hK hR hrec_3 hk1 hF
def F_X1_leadFromEndsOf (N : Nat) (m : Mem) (a1 : Nat) (x2 : Int32) (x3 : Int32) : Option Mem :=
  L_X1_leadFromEndsOf_3 N N m a1 x2 x3 (0 : Int32)
set_option maxRecDepth 100000 in
set_option maxHeartbeats 4000000 in
theorem tr_X1_leadFromEndsOf {N : Nat} {m m' : Mem} {a1 : Nat} {x2 : Int32} {x3 : Int32} (hk1 : knd a1 = 3) (hF : F_X1_leadFromEndsOf N m a1 x2 x3 = some m') : Tr yX1_leadFromEndsOf wsX1_leadFromEndsOf 2 48 [q_r 3, q_r a1, q_i x2, q_i x3] m none m' := by
  refine tr_of (bytes := cX1_leadFromEndsOf) (maxL := 5) (ret := none) (by decide) rfl (Nat.le_of_ble_eq_true rfl) (fun K hK hR => ?_)
  have hK : KOK K cX1_leadFromEndsOf 5 RX1 wsX1_leadFromEndsOf 2 0 48 := hK
  show AW K 0 0 [(0, q_r 3), (1, q_r a1), (2, q_i x2), (3, q_i x3)] [] m
  unfold F_X1_leadFromEndsOf at hF
  refine aw_iconst hK (0) rfl dX1_leadFromEndsOf_0 ?_
  refine aw_istore hK [(4, q_i (0 : Int32)), (0, q_r 3), (1, q_r a1), (2, q_i x2), (3, q_i x3)] (by decide) rfl dX1_leadFromEndsOf_1 ?_
  refine aw_sub [1, 2, 3, 4, 0] (lv' := [(0, q_r 3), (1, q_r a1), (2, q_i x2), (3, q_i x3), (4, q_i (0 : Int32))]) rfl ?_
  exact lp_X1_leadFromEndsOf_3 hK hR _ hk1 hF
def B_X1_addEndsOf_28 (N : Nat) (rec_2 : Mem → Nat → Int32 → Int32 → Option Mem) (m : Mem) (a1 : Nat) (x2 : Int32) (x3 : Int32) : Option Mem :=
  bnd (x3 + (1 : Int32)) fun y3 =>
  rec_2 m a1 x2 y3
set_option maxRecDepth 100000 in
set_option maxHeartbeats 4000000 in
theorem bk_X1_addEndsOf_28 {N : Nat} {K : KT} {m' : Mem} {rec_2 : Mem → Nat → Int32 → Int32 → Option Mem} (hK : KOK K cX1_addEndsOf 4 RX1 wsX1_addEndsOf 1 0 21) (hR : KRet K none none m') (hrec_2 : ∀ {m : Mem} {a1 : Nat} {x2 : Int32} {x3 : Int32} (hk1 : knd a1 = 3), rec_2 m a1 x2 x3 = some m' → AW K 0 2 [(0, q_r 3), (1, q_r a1), (2, q_i x2), (3, q_i x3)] [] m) {m : Mem} {a1 : Nat} {x2 : Int32} {x3 : Int32} (hk1 : knd a1 = 3) (hF : B_X1_addEndsOf_28 N rec_2 m a1 x2 x3 = some m') : AW K 0 28 [(0, q_r 3), (1, q_r a1), (2, q_i x2), (3, q_i x3)] [] m := by
  unfold B_X1_addEndsOf_28 at hF
  obtain ⟨y3, hy3, hF⟩ := bnd_some hF
  refine aw_iinc hK (cz := 1) 3 [(3, q_i y3), (0, q_r 3), (1, q_r a1), (2, q_i x2)] (by decide) rfl rfl hy3 rfl dX1_addEndsOf_28 ?_
  refine aw_goto hK 2 rfl dX1_addEndsOf_31 ?_
  refine aw_sub [1, 2, 3, 0] (lv' := [(0, q_r 3), (1, q_r a1), (2, q_i x2), (3, q_i y3)]) rfl ?_
  exact hrec_2 hk1 hF
def S_X1_addEndsOf_2 (N : Nat) (rec_2 : Mem → Nat → Int32 → Int32 → Option Mem) (m : Mem) (a1 : Nat) (x2 : Int32) (x3 : Int32) : Option Mem :=
  if (m a1 1) ≤ x3 then (
    some m
  ) else (
    if (P_X7_holds (m a1 2) x3) = (0 : Int32) then (
      B_X1_addEndsOf_28 N rec_2 m a1 x2 x3
    ) else (
      calv (F_X1_addEnd N m (x2 + x3)) fun m2 =>
      B_X1_addEndsOf_28 N rec_2 m2 a1 x2 x3
    )
  )
def L_X1_addEndsOf_2 (N : Nat) : Nat → Mem → Nat → Int32 → Int32 → Option Mem
  | 0 => fun _ _ _ _ => none
  | f + 1 => S_X1_addEndsOf_2 N (L_X1_addEndsOf_2 N f)
set_option maxRecDepth 100000 in
set_option maxHeartbeats 4000000 in
theorem lp_X1_addEndsOf_2 {N : Nat} {K : KT} {m' : Mem} (hK : KOK K cX1_addEndsOf 4 RX1 wsX1_addEndsOf 1 0 21) (hR : KRet K none none m') : ∀ (f : Nat) {m : Mem} {a1 : Nat} {x2 : Int32} {x3 : Int32} (hk1 : knd a1 = 3), L_X1_addEndsOf_2 N f m a1 x2 x3 = some m' → AW K 0 2 [(0, q_r 3), (1, q_r a1), (2, q_i x2), (3, q_i x3)] [] m := by
  intro f
  induction f with
  | zero => intro m a1 x2 x3 hk1 hF; cases hF
  | succ f hrec_2 =>
    intro m a1 x2 x3 hk1 hF
    have hF : S_X1_addEndsOf_2 N (L_X1_addEndsOf_2 N f) m a1 x2 x3 = some m' := hF
    unfold S_X1_addEndsOf_2 at hF
    refine aw_iload_n hK 3 rfl dX1_addEndsOf_2 ?_
    refine aw_aload_n hK 1 rfl dX1_addEndsOf_3 ?_
    refine gf_3_1 hK hk1 (List.mem_of_getElem? (i := 1) rfl) dX1_addEndsOf_4 ?_
    refine aw_icmp_ge hK 34 rfl dX1_addEndsOf_7 (fun hc => ?_) (fun hc => ?_)
    · have hF := if_t hF hc
      obtain rfl := Option.some.inj hF
      exact aw_vret hK hR dX1_addEndsOf_34
    · have hF := if_f hF hc
      refine aw_aload_n hK 1 rfl dX1_addEndsOf_10 ?_
      refine gf_3_2 hK hk1 (List.mem_of_getElem? (i := 2) rfl) dX1_addEndsOf_11 ?_
      refine aw_iload_n hK 3 rfl dX1_addEndsOf_14 ?_
      refine aw_csN hK (as := [q_i (m a1 2), q_i x3]) (host := "AffixWorks") (trp_X7_holds (m a1 2) x3 _) gX1_addEndsOf_X7_holds_n95 rfl (List.mem_of_getElem? (i := 12) rfl) (List.mem_of_getElem? (i := 4) rfl) (List.mem_of_getElem? (i := 3) rfl) (na := 2) (by decide +kernel) rfl ⟨by decide, by decide⟩ (Nat.zero_le _) (Nat.le_of_ble_eq_true rfl) dX1_addEndsOf_15 ?_
      refine aw_if_eq hK 28 rfl dX1_addEndsOf_18 (fun hc => ?_) (fun hc => ?_)
      · have hF := if_t hF hc
        refine aw_sub [0, 1, 2, 3] (lv' := [(0, q_r 3), (1, q_r a1), (2, q_i x2), (3, q_i x3)]) rfl ?_
        exact bk_X1_addEndsOf_28 hK hR hrec_2 hk1 hF
      · have hF := if_f hF hc
        refine aw_aload_n hK 0 rfl dX1_addEndsOf_21 ?_
        refine aw_iload_n hK 2 rfl dX1_addEndsOf_22 ?_
        refine aw_iload_n hK 3 rfl dX1_addEndsOf_23 ?_
        refine aw_iadd hK dX1_addEndsOf_24 ?_
        obtain ⟨m2, h1, hF⟩ := calv_some hF
        refine aw_cv hK 1 (as := [q_i (x2 + x3)]) (tr_X1_addEnd h1) gX1_addEndsOf_X1_addEnd rfl rfl rfl (by decide) (na := 1) (by decide +kernel) rfl ⟨by decide, by decide⟩ (Nat.zero_le _) (Nat.le_of_ble_eq_true rfl) dX1_addEndsOf_25 ?_
        refine aw_sub [0, 1, 2, 3] (lv' := [(0, q_r 3), (1, q_r a1), (2, q_i x2), (3, q_i x3)]) rfl ?_
        exact bk_X1_addEndsOf_28 hK hR hrec_2 hk1 hF
def F_X1_addEndsOf (N : Nat) (m : Mem) (a1 : Nat) (x2 : Int32) : Option Mem :=
  L_X1_addEndsOf_2 N N m a1 x2 (0 : Int32)
set_option maxRecDepth 100000 in
set_option maxHeartbeats 4000000 in
theorem tr_X1_addEndsOf {N : Nat} {m m' : Mem} {a1 : Nat} {x2 : Int32} (hk1 : knd a1 = 3) (hF : F_X1_addEndsOf N m a1 x2 = some m') : Tr yX1_addEndsOf wsX1_addEndsOf 1 21 [q_r 3, q_r a1, q_i x2] m none m' := by
  refine tr_of (bytes := cX1_addEndsOf) (maxL := 4) (ret := none) (by decide) rfl (Nat.le_of_ble_eq_true rfl) (fun K hK hR => ?_)
  have hK : KOK K cX1_addEndsOf 4 RX1 wsX1_addEndsOf 1 0 21 := hK
  show AW K 0 0 [(0, q_r 3), (1, q_r a1), (2, q_i x2)] [] m
  unfold F_X1_addEndsOf at hF
  refine aw_iconst hK (0) rfl dX1_addEndsOf_0 ?_
  refine aw_istore_n hK [(3, q_i (0 : Int32)), (0, q_r 3), (1, q_r a1), (2, q_i x2)] (by decide) rfl dX1_addEndsOf_1 ?_
  refine aw_sub [1, 2, 3, 0] (lv' := [(0, q_r 3), (1, q_r a1), (2, q_i x2), (3, q_i (0 : Int32))]) rfl ?_
  exact lp_X1_addEndsOf_2 hK hR _ hk1 hF
def B_X3_relatesEmpty_137 (N : Nat) (m : Mem) (s0 : Int32) : Option (Int32 × Mem) :=
  gd (isb s0) <|
  some (s0, m)
set_option maxRecDepth 100000 in
set_option maxHeartbeats 4000000 in
theorem bk_X3_relatesEmpty_137 {N : Nat} {K : KT} {m' : Mem} {r : Int32} (hK : KOK K cX3_relatesEmpty 8 RX3 wsX3_relatesEmpty 1 0 21) (hR : KRet K (some .boolean) (some r) m') {m : Mem} {s0 : Int32} (hF : B_X3_relatesEmpty_137 N m s0 = some (r, m')) : AW K 0 137 [] [q_i s0] m := by
  unfold B_X3_relatesEmpty_137 at hF
  obtain ⟨g6, hF⟩ := gd_some hF
  obtain ⟨rfl, rfl⟩ := so_inj hF
  exact aw_iret hK hR (isb_narrow g6) dX3_relatesEmpty_137
def B_X3_relatesEmpty_123 (N : Nat) (m : Mem) (a0 : Nat) (x2 : Int32) : Option (Int32 × Mem) :=
  if (x2 &&& (m a0 2)) = (0 : Int32) then (
    B_X3_relatesEmpty_137 N m (0 : Int32)
  ) else (
    B_X3_relatesEmpty_137 N m (1 : Int32)
  )
set_option maxRecDepth 100000 in
set_option maxHeartbeats 4000000 in
theorem bk_X3_relatesEmpty_123 {N : Nat} {K : KT} {m' : Mem} {r : Int32} (hK : KOK K cX3_relatesEmpty 8 RX3 wsX3_relatesEmpty 1 0 21) (hR : KRet K (some .boolean) (some r) m') {m : Mem} {a0 : Nat} {x2 : Int32} (hk0 : knd a0 = 3) (hF : B_X3_relatesEmpty_123 N m a0 x2 = some (r, m')) : AW K 0 123 [(0, q_r a0), (2, q_i x2)] [] m := by
  unfold B_X3_relatesEmpty_123 at hF
  refine aw_iload_n hK 1 rfl dX3_relatesEmpty_123 ?_
  refine aw_aload_n hK 0 rfl dX3_relatesEmpty_124 ?_
  refine gf_3_2 hK hk0 (List.mem_of_getElem? (i := 5) rfl) dX3_relatesEmpty_125 ?_
  refine aw_iand hK dX3_relatesEmpty_128 ?_
  refine aw_if_eq hK 136 rfl dX3_relatesEmpty_129 (fun hc => ?_) (fun hc => ?_)
  · have hF := if_t hF hc
    refine aw_iconst hK (0) rfl dX3_relatesEmpty_136 ?_
    refine aw_sub [] (lv' := []) rfl ?_
    exact bk_X3_relatesEmpty_137 hK hR hF
  · have hF := if_f hF hc
    refine aw_iconst hK (1) rfl dX3_relatesEmpty_132 ?_
    refine aw_goto hK 137 rfl dX3_relatesEmpty_133 ?_
    refine aw_sub [] (lv' := []) rfl ?_
    exact bk_X3_relatesEmpty_137 hK hR hF
def B_X3_relatesEmpty_111 (N : Nat) (rec_7 : Mem → Nat → Int32 → Int32 → Int32 → Int32 → Option (Int32 × Mem)) (rec_25 : Mem → Nat → Int32 → Int32 → Int32 → Int32 → Int32 → Option (Int32 × Mem)) (m : Mem) (a0 : Nat) (x1 : Int32) (x2 : Int32) (x3 : Int32) (x4 : Int32) (x5 : Int32) : Option (Int32 × Mem) :=
  bnd (x5 + (1 : Int32)) fun y5 =>
  rec_25 m a0 x1 x2 x3 x4 y5
set_option maxRecDepth 100000 in
set_option maxHeartbeats 4000000 in
theorem bk_X3_relatesEmpty_111 {N : Nat} {K : KT} {m' : Mem} {rec_7 : Mem → Nat → Int32 → Int32 → Int32 → Int32 → Option (Int32 × Mem)} {rec_25 : Mem → Nat → Int32 → Int32 → Int32 → Int32 → Int32 → Option (Int32 × Mem)} {r : Int32} (hK : KOK K cX3_relatesEmpty 8 RX3 wsX3_relatesEmpty 1 0 21) (hR : KRet K (some .boolean) (some r) m') (hrec_7 : ∀ {m : Mem} {a0 : Nat} {x1 : Int32} {x2 : Int32} {x3 : Int32} {x4 : Int32} (hk0 : knd a0 = 3), rec_7 m a0 x1 x2 x3 x4 = some (r, m') → AW K 0 7 [(0, q_r a0), (1, q_i x1), (2, q_i x2), (3, q_i x3), (4, q_i x4)] [] m) (hrec_25 : ∀ {m : Mem} {a0 : Nat} {x1 : Int32} {x2 : Int32} {x3 : Int32} {x4 : Int32} {x5 : Int32} (hk0 : knd a0 = 3), rec_25 m a0 x1 x2 x3 x4 x5 = some (r, m') → AW K 0 25 [(0, q_r a0), (1, q_i x1), (2, q_i x2), (3, q_i x3), (4, q_i x4), (5, q_i x5)] [] m) {m : Mem} {a0 : Nat} {x1 : Int32} {x2 : Int32} {x3 : Int32} {x4 : Int32} {x5 : Int32} (hk0 : knd a0 = 3) (hF : B_X3_relatesEmpty_111 N rec_7 rec_25 m a0 x1 x2 x3 x4 x5 = some (r, m')) : AW K 0 111 [(0, q_r a0), (1, q_i x1), (2, q_i x2), (3, q_i x3), (4, q_i x4), (5, q_i x5)] [] m := by
  unfold B_X3_relatesEmpty_111 at hF
  obtain ⟨y5, hy5, hF⟩ := bnd_some hF
  refine aw_iinc hK (cz := 1) 5 [(5, q_i y5), (0, q_r a0), (1, q_i x1), (2, q_i x2), (3, q_i x3), (4, q_i x4)] (by decide) rfl rfl hy5 rfl dX3_relatesEmpty_111 ?_
  refine aw_goto hK 25 rfl dX3_relatesEmpty_114 ?_
  refine aw_sub [1, 2, 3, 4, 5, 0] (lv' := [(0, q_r a0), (1, q_i x1), (2, q_i x2), (3, q_i x3), (4, q_i x4), (5, q_i y5)]) rfl ?_
  exact hrec_25 hk0 hF
def B_X3_relatesEmpty_66 (N : Nat) (rec_7 : Mem → Nat → Int32 → Int32 → Int32 → Int32 → Option (Int32 × Mem)) (rec_25 : Mem → Nat → Int32 → Int32 → Int32 → Int32 → Int32 → Option (Int32 × Mem)) (m : Mem) (a0 : Nat) (x1 : Int32) (x2 : Int32) (x3 : Int32) (x4 : Int32) (x5 : Int32) (x6 : Int32) (s0 : Int32) : Option (Int32 × Mem) :=
  if s0 = (8 : Int32) then (
    if (P_X7_holds x2 (P_X7_fromOf x6)) = (0 : Int32) then (
      B_X3_relatesEmpty_111 N rec_7 rec_25 m a0 x1 x2 x3 x4 x5
    ) else (
      if (P_X7_holds x2 (P_X7_toOf x6)) = (0 : Int32) then (
        bnd (x2 ||| (q_shl (1 : Int32) (P_X7_toOf x6))) fun y4 =>
        B_X3_relatesEmpty_111 N rec_7 rec_25 m a0 x1 y4 (1 : Int32) x4 x5
      ) else (
        B_X3_relatesEmpty_111 N rec_7 rec_25 m a0 x1 x2 x3 x4 x5
      )
    )
  ) else (
    B_X3_relatesEmpty_111 N rec_7 rec_25 m a0 x1 x2 x3 x4 x5
  )
set_option maxRecDepth 100000 in
set_option maxHeartbeats 4000000 in
theorem bk_X3_relatesEmpty_66 {N : Nat} {K : KT} {m' : Mem} {rec_7 : Mem → Nat → Int32 → Int32 → Int32 → Int32 → Option (Int32 × Mem)} {rec_25 : Mem → Nat → Int32 → Int32 → Int32 → Int32 → Int32 → Option (Int32 × Mem)} {r : Int32} (hK : KOK K cX3_relatesEmpty 8 RX3 wsX3_relatesEmpty 1 0 21) (hR : KRet K (some .boolean) (some r) m') (hrec_7 : ∀ {m : Mem} {a0 : Nat} {x1 : Int32} {x2 : Int32} {x3 : Int32} {x4 : Int32} (hk0 : knd a0 = 3), rec_7 m a0 x1 x2 x3 x4 = some (r, m') → AW K 0 7 [(0, q_r a0), (1, q_i x1), (2, q_i x2), (3, q_i x3), (4, q_i x4)] [] m) (hrec_25 : ∀ {m : Mem} {a0 : Nat} {x1 : Int32} {x2 : Int32} {x3 : Int32} {x4 : Int32} {x5 : Int32} (hk0 : knd a0 = 3), rec_25 m a0 x1 x2 x3 x4 x5 = some (r, m') → AW K 0 25 [(0, q_r a0), (1, q_i x1), (2, q_i x2), (3, q_i x3), (4, q_i x4), (5, q_i x5)] [] m) {m : Mem} {a0 : Nat} {x1 : Int32} {x2 : Int32} {x3 : Int32} {x4 : Int32} {x5 : Int32} {x6 : Int32} {s0 : Int32} (hk0 : knd a0 = 3) (hF : B_X3_relatesEmpty_66 N rec_7 rec_25 m a0 x1 x2 x3 x4 x5 x6 s0 = some (r, m')) : AW K 0 66 [(0, q_r a0), (1, q_i x1), (2, q_i x2), (3, q_i x3), (4, q_i x4), (5, q_i x5), (6, q_i x6)] [q_i s0] m := by
  unfold B_X3_relatesEmpty_66 at hF
  refine aw_istore hK [(7, q_i s0), (0, q_r a0), (1, q_i x1), (2, q_i x2), (3, q_i x3), (4, q_i x4), (5, q_i x5), (6, q_i x6)] (by decide) rfl dX3_relatesEmpty_66 ?_
  refine aw_iload hK 0 rfl dX3_relatesEmpty_68 ?_
  refine aw_bipush hK (8) rfl dX3_relatesEmpty_70 ?_
  refine aw_icmp_ne hK 111 rfl dX3_relatesEmpty_72 (fun hc => ?_) (fun hc => ?_)
  · have hF := if_f hF hc
    refine aw_sub [1, 2, 3, 4, 5, 6] (lv' := [(0, q_r a0), (1, q_i x1), (2, q_i x2), (3, q_i x3), (4, q_i x4), (5, q_i x5)]) rfl ?_
    exact bk_X3_relatesEmpty_111 hK hR hrec_7 hrec_25 hk0 hF
  · have hF := if_t hF hc
    refine aw_iload_n hK 3 rfl dX3_relatesEmpty_75 ?_
    refine aw_iload hK 7 rfl dX3_relatesEmpty_76 ?_
    refine aw_csN hK (as := [q_i x6]) (host := "AffixWorks") (trp_X7_fromOf x6 _) gX3_relatesEmpty_X7_fromOf_n42 rfl (List.mem_of_getElem? (i := 16) rfl) (List.mem_of_getElem? (i := 7) rfl) (List.mem_of_getElem? (i := 11) rfl) (na := 1) (by decide +kernel) rfl ⟨by decide, by decide⟩ (Nat.zero_le _) (Nat.le_of_ble_eq_true rfl) dX3_relatesEmpty_78 ?_
    refine aw_csN hK (as := [q_i x2, q_i (P_X7_fromOf x6)]) (host := "AffixWorks") (trp_X7_holds x2 (P_X7_fromOf x6) _) gX3_relatesEmpty_X7_holds_n45 rfl (List.mem_of_getElem? (i := 17) rfl) (List.mem_of_getElem? (i := 7) rfl) (List.mem_of_getElem? (i := 13) rfl) (na := 2) (by decide +kernel) rfl ⟨by decide, by decide⟩ (Nat.zero_le _) (Nat.le_of_ble_eq_true rfl) dX3_relatesEmpty_81 ?_
    refine aw_if_eq hK 111 rfl dX3_relatesEmpty_84 (fun hc => ?_) (fun hc => ?_)
    · have hF := if_t hF hc
      refine aw_sub [1, 2, 3, 4, 5, 6] (lv' := [(0, q_r a0), (1, q_i x1), (2, q_i x2), (3, q_i x3), (4, q_i x4), (5, q_i x5)]) rfl ?_
      exact bk_X3_relatesEmpty_111 hK hR hrec_7 hrec_25 hk0 hF
    · have hF := if_f hF hc
      refine aw_iload_n hK 3 rfl dX3_relatesEmpty_87 ?_
      refine aw_iload hK 7 rfl dX3_relatesEmpty_88 ?_
      refine aw_csN hK (as := [q_i x6]) (host := "AffixWorks") (trp_X7_toOf x6 _) gX3_relatesEmpty_X7_toOf_n49 rfl (List.mem_of_getElem? (i := 18) rfl) (List.mem_of_getElem? (i := 7) rfl) (List.mem_of_getElem? (i := 15) rfl) (na := 1) (by decide +kernel) rfl ⟨by decide, by decide⟩ (Nat.zero_le _) (Nat.le_of_ble_eq_true rfl) dX3_relatesEmpty_90 ?_
      refine aw_csN hK (as := [q_i x2, q_i (P_X7_toOf x6)]) (host := "AffixWorks") (trp_X7_holds x2 (P_X7_toOf x6) _) gX3_relatesEmpty_X7_holds_n45 rfl (List.mem_of_getElem? (i := 17) rfl) (List.mem_of_getElem? (i := 7) rfl) (List.mem_of_getElem? (i := 13) rfl) (na := 2) (by decide +kernel) rfl ⟨by decide, by decide⟩ (Nat.zero_le _) (Nat.le_of_ble_eq_true rfl) dX3_relatesEmpty_93 ?_
      refine aw_if_ne hK 111 rfl dX3_relatesEmpty_96 (fun hc => ?_) (fun hc => ?_)
      · have hF := if_f hF hc
        refine aw_sub [1, 2, 3, 4, 5, 6] (lv' := [(0, q_r a0), (1, q_i x1), (2, q_i x2), (3, q_i x3), (4, q_i x4), (5, q_i x5)]) rfl ?_
        exact bk_X3_relatesEmpty_111 hK hR hrec_7 hrec_25 hk0 hF
      · have hF := if_t hF hc
        refine aw_iload_n hK 3 rfl dX3_relatesEmpty_99 ?_
        refine aw_iconst hK (1) rfl dX3_relatesEmpty_100 ?_
        refine aw_iload hK 7 rfl dX3_relatesEmpty_101 ?_
        refine aw_csN hK (as := [q_i x6]) (host := "AffixWorks") (trp_X7_toOf x6 _) gX3_relatesEmpty_X7_toOf_n49 rfl (List.mem_of_getElem? (i := 18) rfl) (List.mem_of_getElem? (i := 7) rfl) (List.mem_of_getElem? (i := 15) rfl) (na := 1) (by decide +kernel) rfl ⟨by decide, by decide⟩ (Nat.zero_le _) (Nat.le_of_ble_eq_true rfl) dX3_relatesEmpty_103 ?_
        refine aw_ishl hK dX3_relatesEmpty_106 ?_
        refine aw_ior hK dX3_relatesEmpty_107 ?_
        obtain ⟨y4, hy4, hF⟩ := bnd_some hF
        refine aw_nm hy4 ?_
        refine aw_istore_n hK [(2, q_i y4), (7, q_i s0), (0, q_r a0), (1, q_i x1), (3, q_i x3), (4, q_i x4), (5, q_i x5), (6, q_i x6)] (by decide) rfl dX3_relatesEmpty_108 ?_
        refine aw_iconst hK (1) rfl dX3_relatesEmpty_109 ?_
        refine aw_istore_n hK [(3, q_i (1 : Int32)), (2, q_i y4), (7, q_i s0), (0, q_r a0), (1, q_i x1), (4, q_i x4), (5, q_i x5), (6, q_i x6)] (by decide) rfl dX3_relatesEmpty_110 ?_
        refine aw_sub [3, 4, 1, 0, 5, 6] (lv' := [(0, q_r a0), (1, q_i x1), (2, q_i y4), (3, q_i (1 : Int32)), (4, q_i x4), (5, q_i x5)]) rfl ?_
        exact bk_X3_relatesEmpty_111 hK hR hrec_7 hrec_25 hk0 hF
def S_X3_relatesEmpty_25 (N : Nat) (rec_7 : Mem → Nat → Int32 → Int32 → Int32 → Int32 → Option (Int32 × Mem)) (rec_25 : Mem → Nat → Int32 → Int32 → Int32 → Int32 → Int32 → Option (Int32 × Mem)) (m : Mem) (a0 : Nat) (x1 : Int32) (x2 : Int32) (x3 : Int32) (x4 : Int32) (x5 : Int32) : Option (Int32 × Mem) :=
  if (m (a0 + 1) 2) ≤ x5 then (
    bnd (x4 + (1 : Int32)) fun y1 =>
    rec_7 m a0 x1 x2 x3 y1
  ) else (
    gd (inb x5 (alen ((a0 + 1) + 1))) <|
    bnd (m ((a0 + 1) + 1) (ix x5)) fun y3 =>
    if x1 = (0 : Int32) then (
      B_X3_relatesEmpty_66 N rec_7 rec_25 m a0 x1 x2 x3 x4 x5 y3 (P_X7_lowerOf y3)
    ) else (
      B_X3_relatesEmpty_66 N rec_7 rec_25 m a0 x1 x2 x3 x4 x5 y3 (P_X7_upperOf y3)
    )
  )
def L_X3_relatesEmpty_25 (N : Nat) (rec_7 : Mem → Nat → Int32 → Int32 → Int32 → Int32 → Option (Int32 × Mem)) : Nat → Mem → Nat → Int32 → Int32 → Int32 → Int32 → Int32 → Option (Int32 × Mem)
  | 0 => fun _ _ _ _ _ _ _ => none
  | f + 1 => S_X3_relatesEmpty_25 N rec_7 (L_X3_relatesEmpty_25 N rec_7 f)
set_option maxRecDepth 100000 in
set_option maxHeartbeats 4000000 in
theorem lp_X3_relatesEmpty_25 {N : Nat} {K : KT} {m' : Mem} {rec_7 : Mem → Nat → Int32 → Int32 → Int32 → Int32 → Option (Int32 × Mem)} {r : Int32} (hK : KOK K cX3_relatesEmpty 8 RX3 wsX3_relatesEmpty 1 0 21) (hR : KRet K (some .boolean) (some r) m') (hrec_7 : ∀ {m : Mem} {a0 : Nat} {x1 : Int32} {x2 : Int32} {x3 : Int32} {x4 : Int32} (hk0 : knd a0 = 3), rec_7 m a0 x1 x2 x3 x4 = some (r, m') → AW K 0 7 [(0, q_r a0), (1, q_i x1), (2, q_i x2), (3, q_i x3), (4, q_i x4)] [] m) : ∀ (f : Nat) {m : Mem} {a0 : Nat} {x1 : Int32} {x2 : Int32} {x3 : Int32} {x4 : Int32} {x5 : Int32} (hk0 : knd a0 = 3), L_X3_relatesEmpty_25 N rec_7 f m a0 x1 x2 x3 x4 x5 = some (r, m') → AW K 0 25 [(0, q_r a0), (1, q_i x1), (2, q_i x2), (3, q_i x3), (4, q_i x4), (5, q_i x5)] [] m := by
  intro f
  induction f with
  | zero => intro m a0 x1 x2 x3 x4 x5 hk0 hF; cases hF
  | succ f hrec_25 =>
    intro m a0 x1 x2 x3 x4 x5 hk0 hF
    have hF : S_X3_relatesEmpty_25 N rec_7 (L_X3_relatesEmpty_25 N rec_7 f) m a0 x1 x2 x3 x4 x5 = some (r, m') := hF
    unfold S_X3_relatesEmpty_25 at hF
    refine aw_iload hK 5 rfl dX3_relatesEmpty_25 ?_
    refine aw_aload_n hK 0 rfl dX3_relatesEmpty_27 ?_
    refine gf_3_0 hK hk0 (a0 + 1) rfl (List.mem_of_getElem? (i := 2) rfl) dX3_relatesEmpty_28 ?_
    refine gf_0_2 hK (kM1 hk0) (List.mem_of_getElem? (i := 3) rfl) dX3_relatesEmpty_31 ?_
    refine aw_icmp_ge hK 117 rfl dX3_relatesEmpty_34 (fun hc => ?_) (fun hc => ?_)
    · have hF := if_t hF hc
      obtain ⟨y1, hy1, hF⟩ := bnd_some hF
      refine aw_iinc hK (cz := 1) 4 [(4, q_i y1), (0, q_r a0), (1, q_i x1), (2, q_i x2), (3, q_i x3), (5, q_i x5)] (by decide) rfl rfl hy1 rfl dX3_relatesEmpty_117 ?_
      refine aw_goto hK 7 rfl dX3_relatesEmpty_120 ?_
      refine aw_sub [1, 2, 3, 4, 0] (lv' := [(0, q_r a0), (1, q_i x1), (2, q_i x2), (3, q_i x3), (4, q_i y1)]) rfl ?_
      exact hrec_7 hk0 hF
    · have hF := if_f hF hc
      refine aw_aload_n hK 0 rfl dX3_relatesEmpty_37 ?_
      refine gf_3_0 hK hk0 (a0 + 1) rfl (List.mem_of_getElem? (i := 2) rfl) dX3_relatesEmpty_38 ?_
      refine gf_0_0 hK (kM1 hk0) ((a0 + 1) + 1) rfl (List.mem_of_getElem? (i := 4) rfl) dX3_relatesEmpty_41 ?_
      refine aw_iload hK 5 rfl dX3_relatesEmpty_44 ?_
      obtain ⟨g2, hF⟩ := gd_some hF
      refine aw_iald hK (kA1 (kM1 hk0)) g2 dX3_relatesEmpty_46 ?_
      obtain ⟨y3, hy3, hF⟩ := bnd_some hF
      refine aw_nm hy3 ?_
      refine aw_istore hK [(6, q_i y3), (0, q_r a0), (1, q_i x1), (2, q_i x2), (3, q_i x3), (4, q_i x4), (5, q_i x5)] (by decide) rfl dX3_relatesEmpty_47 ?_
      refine aw_iload_n hK 2 rfl dX3_relatesEmpty_49 ?_
      refine aw_if_eq hK 61 rfl dX3_relatesEmpty_50 (fun hc => ?_) (fun hc => ?_)
      · have hF := if_t hF hc
        refine aw_iload hK 0 rfl dX3_relatesEmpty_61 ?_
        refine aw_csN hK (as := [q_i y3]) (host := "AffixWorks") (trp_X7_lowerOf y3 _) gX3_relatesEmpty_X7_lowerOf_n36 rfl (List.mem_of_getElem? (i := 15) rfl) (List.mem_of_getElem? (i := 7) rfl) (List.mem_of_getElem? (i := 9) rfl) (na := 1) (by decide +kernel) rfl ⟨by decide, by decide⟩ (Nat.zero_le _) (Nat.le_of_ble_eq_true rfl) dX3_relatesEmpty_63 ?_
        refine aw_sub [1, 2, 3, 4, 5, 6, 0] (lv' := [(0, q_r a0), (1, q_i x1), (2, q_i x2), (3, q_i x3), (4, q_i x4), (5, q_i x5), (6, q_i y3)]) rfl ?_
        exact bk_X3_relatesEmpty_66 hK hR hrec_7 hrec_25 hk0 hF
      · have hF := if_f hF hc
        refine aw_iload hK 0 rfl dX3_relatesEmpty_53 ?_
        refine aw_csN hK (as := [q_i y3]) (host := "AffixWorks") (trp_X7_upperOf y3 _) gX3_relatesEmpty_X7_upperOf_n32 rfl (List.mem_of_getElem? (i := 14) rfl) (List.mem_of_getElem? (i := 7) rfl) (List.mem_of_getElem? (i := 6) rfl) (na := 1) (by decide +kernel) rfl ⟨by decide, by decide⟩ (Nat.zero_le _) (Nat.le_of_ble_eq_true rfl) dX3_relatesEmpty_55 ?_
        refine aw_goto hK 66 rfl dX3_relatesEmpty_58 ?_
        refine aw_sub [1, 2, 3, 4, 5, 6, 0] (lv' := [(0, q_r a0), (1, q_i x1), (2, q_i x2), (3, q_i x3), (4, q_i x4), (5, q_i x5), (6, q_i y3)]) rfl ?_
        exact bk_X3_relatesEmpty_66 hK hR hrec_7 hrec_25 hk0 hF
def S_X3_relatesEmpty_7 (N : Nat) (rec_7 : Mem → Nat → Int32 → Int32 → Int32 → Int32 → Option (Int32 × Mem)) (m : Mem) (a0 : Nat) (x1 : Int32) (x2 : Int32) (x3 : Int32) (x4 : Int32) : Option (Int32 × Mem) :=
  if x3 = (0 : Int32) then (
    B_X3_relatesEmpty_123 N m a0 x2
  ) else (
    if (m a0 1) ≤ x4 then (
      B_X3_relatesEmpty_123 N m a0 x2
    ) else (
      L_X3_relatesEmpty_25 N rec_7 N m a0 x1 x2 (0 : Int32) x4 (0 : Int32)
    )
  )
def L_X3_relatesEmpty_7 (N : Nat) : Nat → Mem → Nat → Int32 → Int32 → Int32 → Int32 → Option (Int32 × Mem)
  | 0 => fun _ _ _ _ _ _ => none
  | f + 1 => S_X3_relatesEmpty_7 N (L_X3_relatesEmpty_7 N f)
set_option maxRecDepth 100000 in
set_option maxHeartbeats 4000000 in
theorem lp_X3_relatesEmpty_7 {N : Nat} {K : KT} {m' : Mem} {r : Int32} (hK : KOK K cX3_relatesEmpty 8 RX3 wsX3_relatesEmpty 1 0 21) (hR : KRet K (some .boolean) (some r) m') : ∀ (f : Nat) {m : Mem} {a0 : Nat} {x1 : Int32} {x2 : Int32} {x3 : Int32} {x4 : Int32} (hk0 : knd a0 = 3), L_X3_relatesEmpty_7 N f m a0 x1 x2 x3 x4 = some (r, m') → AW K 0 7 [(0, q_r a0), (1, q_i x1), (2, q_i x2), (3, q_i x3), (4, q_i x4)] [] m := by
  intro f
  induction f with
  | zero => intro m a0 x1 x2 x3 x4 hk0 hF; cases hF
  | succ f hrec_7 =>
    intro m a0 x1 x2 x3 x4 hk0 hF
    have hF : S_X3_relatesEmpty_7 N (L_X3_relatesEmpty_7 N f) m a0 x1 x2 x3 x4 = some (r, m') := hF
    unfold S_X3_relatesEmpty_7 at hF
    refine aw_iload_n hK 3 rfl dX3_relatesEmpty_7 ?_
    refine aw_if_eq hK 123 rfl dX3_relatesEmpty_8 (fun hc => ?_) (fun hc => ?_)
    · have hF := if_t hF hc
      refine aw_sub [0, 2] (lv' := [(0, q_r a0), (2, q_i x2)]) rfl ?_
      exact bk_X3_relatesEmpty_123 hK hR hk0 hF
    · have hF := if_f hF hc
      refine aw_iload hK 4 rfl dX3_relatesEmpty_11 ?_
      refine aw_aload_n hK 0 rfl dX3_relatesEmpty_13 ?_
      refine gf_3_1 hK hk0 (List.mem_of_getElem? (i := 1) rfl) dX3_relatesEmpty_14 ?_
      refine aw_icmp_ge hK 123 rfl dX3_relatesEmpty_17 (fun hc => ?_) (fun hc => ?_)
      · have hF := if_t hF hc
        refine aw_sub [0, 2] (lv' := [(0, q_r a0), (2, q_i x2)]) rfl ?_
        exact bk_X3_relatesEmpty_123 hK hR hk0 hF
      · have hF := if_f hF hc
        refine aw_iconst hK (0) rfl dX3_relatesEmpty_20 ?_
        refine aw_istore_n hK [(3, q_i (0 : Int32)), (0, q_r a0), (1, q_i x1), (2, q_i x2), (4, q_i x4)] (by decide) rfl dX3_relatesEmpty_21 ?_
        refine aw_iconst hK (0) rfl dX3_relatesEmpty_22 ?_
        refine aw_istore hK [(5, q_i (0 : Int32)), (3, q_i (0 : Int32)), (0, q_r a0), (1, q_i x1), (2, q_i x2), (4, q_i x4)] (by decide) rfl dX3_relatesEmpty_23 ?_
        refine aw_sub [2, 3, 4, 1, 5, 0] (lv' := [(0, q_r a0), (1, q_i x1), (2, q_i x2), (3, q_i (0 : Int32)), (4, q_i x4), (5, q_i (0 : Int32))]) rfl ?_
        exact lp_X3_relatesEmpty_25 hK hR hrec_7 _ hk0 hF
def F_X3_relatesEmpty (N : Nat) (m : Mem) (a0 : Nat) (x1 : Int32) : Option (Int32 × Mem) :=
  L_X3_relatesEmpty_7 N N m a0 x1 (1 : Int32) (1 : Int32) (0 : Int32)
set_option maxRecDepth 100000 in
set_option maxHeartbeats 4000000 in
theorem tr_X3_relatesEmpty {N : Nat} {m m' : Mem} {r : Int32} {a0 : Nat} {x1 : Int32} (hk0 : knd a0 = 3) (hF : F_X3_relatesEmpty N m a0 x1 = some (r, m')) : Tr yX3_relatesEmpty wsX3_relatesEmpty 1 21 [q_r a0, q_i x1] m (some r) m' := by
  refine tr_of (bytes := cX3_relatesEmpty) (maxL := 8) (ret := (some .boolean)) (by decide) rfl (Nat.le_of_ble_eq_true rfl) (fun K hK hR => ?_)
  have hK : KOK K cX3_relatesEmpty 8 RX3 wsX3_relatesEmpty 1 0 21 := hK
  show AW K 0 0 [(0, q_r a0), (1, q_i x1)] [] m
  unfold F_X3_relatesEmpty at hF
  refine aw_iconst hK (1) rfl dX3_relatesEmpty_0 ?_
  refine aw_istore_n hK [(2, q_i (1 : Int32)), (0, q_r a0), (1, q_i x1)] (by decide) rfl dX3_relatesEmpty_1 ?_
  refine aw_iconst hK (1) rfl dX3_relatesEmpty_2 ?_
  refine aw_istore_n hK [(3, q_i (1 : Int32)), (2, q_i (1 : Int32)), (0, q_r a0), (1, q_i x1)] (by decide) rfl dX3_relatesEmpty_3 ?_
  refine aw_iconst hK (0) rfl dX3_relatesEmpty_4 ?_
  refine aw_istore hK [(4, q_i (0 : Int32)), (3, q_i (1 : Int32)), (2, q_i (1 : Int32)), (0, q_r a0), (1, q_i x1)] (by decide) rfl dX3_relatesEmpty_5 ?_
  refine aw_sub [3, 4, 2, 1, 0] (lv' := [(0, q_r a0), (1, q_i x1), (2, q_i (1 : Int32)), (3, q_i (1 : Int32)), (4, q_i (0 : Int32))]) rfl ?_
  exact lp_X3_relatesEmpty_7 hK hR _ hk0 hF
def B_X7_addMeetings_157 (N : Nat) (rec_2 : Mem → Nat → Nat → Int32 → Option (Int32 × Mem)) (rec_27 : Mem → Nat → Nat → Int32 → Int32 → Int32 → Option (Int32 × Mem)) (m : Mem) (a1 : Nat) (a2 : Nat) (x3 : Int32) (x4 : Int32) (x5 : Int32) : Option (Int32 × Mem) :=
  bnd (x5 + (1 : Int32)) fun y11 =>
  rec_27 m a1 a2 x3 x4 y11
set_option maxRecDepth 100000 in
set_option maxHeartbeats 4000000 in
theorem bk_X7_addMeetings_157 {N : Nat} {K : KT} {m' : Mem} {rec_2 : Mem → Nat → Nat → Int32 → Option (Int32 × Mem)} {rec_27 : Mem → Nat → Nat → Int32 → Int32 → Int32 → Option (Int32 × Mem)} {r : Int32} (hK : KOK K cX7_addMeetings 8 RX7 wsX7_addMeetings 2 0 48) (hR : KRet K (some .boolean) (some r) m') (hrec_2 : ∀ {m : Mem} {a1 : Nat} {a2 : Nat} {x3 : Int32} (hk1 : knd a1 = 3) (hk2 : knd a2 = 3), rec_2 m a1 a2 x3 = some (r, m') → AW K 0 2 [(0, q_r 0), (1, q_r a1), (2, q_r a2), (3, q_i x3)] [] m) (hrec_27 : ∀ {m : Mem} {a1 : Nat} {a2 : Nat} {x3 : Int32} {x4 : Int32} {x5 : Int32} (hk1 : knd a1 = 3) (hk2 : knd a2 = 3), rec_27 m a1 a2 x3 x4 x5 = some (r, m') → AW K 0 27 [(0, q_r 0), (1, q_r a1), (2, q_r a2), (3, q_i x3), (4, q_i x4), (5, q_i x5)] [] m) {m : Mem} {a1 : Nat} {a2 : Nat} {x3 : Int32} {x4 : Int32} {x5 : Int32} (hk1 : knd a1 = 3) (hk2 : knd a2 = 3) (hF : B_X7_addMeetings_157 N rec_2 rec_27 m a1 a2 x3 x4 x5 = some (r, m')) : AW K 0 157 [(0, q_r 0), (1, q_r a1), (2, q_r a2), (3, q_i x3), (4, q_i x4), (5, q_i x5)] [] m := by
  unfold B_X7_addMeetings_157 at hF
  obtain ⟨y11, hy11, hF⟩ := bnd_some hF
  refine aw_iinc hK (cz := 1) 5 [(5, q_i y11), (0, q_r 0), (1, q_r a1), (2, q_r a2), (3, q_i x3), (4, q_i x4)] (by decide) rfl rfl hy11 rfl dX7_addMeetings_157 ?_
  refine aw_goto hK 27 rfl dX7_addMeetings_160 ?_
  refine aw_sub [1, 2, 3, 4, 5, 0] (lv' := [(0, q_r 0), (1, q_r a1), (2, q_r a2), (3, q_i x3), (4, q_i x4), (5, q_i y11)]) rfl ?_
  exact hrec_27 hk1 hk2 hF
def S_X7_addMeetings_27 (N : Nat) (rec_2 : Mem → Nat → Nat → Int32 → Option (Int32 × Mem)) (rec_27 : Mem → Nat → Nat → Int32 → Int32 → Int32 → Option (Int32 × Mem)) (m : Mem) (a1 : Nat) (a2 : Nat) (x3 : Int32) (x4 : Int32) (x5 : Int32) : Option (Int32 × Mem) :=
  if (m (a2 + 1) 2) ≤ x5 then (
    bnd (x3 + (1 : Int32)) fun y3 =>
    rec_2 m a1 a2 y3
  ) else (
    gd (inb x5 (alen ((a2 + 1) + 1))) <|
    bnd (m ((a2 + 1) + 1) (ix x5)) fun y5 =>
    if (P_X7_lowerOf x4) = (8 : Int32) then (
      B_X7_addMeetings_157 N rec_2 rec_27 m a1 a2 x3 x4 x5
    ) else (
      if (P_X7_lowerOf x4) = (P_X7_upperOf y5) then (
        gd (inb x3 (alen ((a1 + 1) + 2))) <|
        gd (inb x5 (alen ((a2 + 1) + 2))) <|
        bnd ((m ((a1 + 1) + 2) (ix x3)) + (m ((a2 + 1) + 2) (ix x5))) fun y8 =>
        if y8 ≤ (1000000 : Int32) then (
          calv (F_X1_addArc N m (((P_X7_fromOf x4) * (m a2 1)) + (P_X7_fromOf y5)) (P_X7_upperOf x4) (P_X7_lowerOf y5) y8 (((P_X7_toOf x4) * (m a2 1)) + (P_X7_toOf y5))) fun m10 =>
          B_X7_addMeetings_157 N rec_2 rec_27 m10 a1 a2 x3 x4 x5
        ) else (
          some ((0 : Int32), m)
        )
      ) else (
        B_X7_addMeetings_157 N rec_2 rec_27 m a1 a2 x3 x4 x5
      )
    )
  )
def L_X7_addMeetings_27 (N : Nat) (rec_2 : Mem → Nat → Nat → Int32 → Option (Int32 × Mem)) : Nat → Mem → Nat → Nat → Int32 → Int32 → Int32 → Option (Int32 × Mem)
  | 0 => fun _ _ _ _ _ _ => none
  | f + 1 => S_X7_addMeetings_27 N rec_2 (L_X7_addMeetings_27 N rec_2 f)
set_option maxRecDepth 100000 in
set_option maxHeartbeats 4000000 in
theorem lp_X7_addMeetings_27 {N : Nat} {K : KT} {m' : Mem} {rec_2 : Mem → Nat → Nat → Int32 → Option (Int32 × Mem)} {r : Int32} (hK : KOK K cX7_addMeetings 8 RX7 wsX7_addMeetings 2 0 48) (hR : KRet K (some .boolean) (some r) m') (hrec_2 : ∀ {m : Mem} {a1 : Nat} {a2 : Nat} {x3 : Int32} (hk1 : knd a1 = 3) (hk2 : knd a2 = 3), rec_2 m a1 a2 x3 = some (r, m') → AW K 0 2 [(0, q_r 0), (1, q_r a1), (2, q_r a2), (3, q_i x3)] [] m) : ∀ (f : Nat) {m : Mem} {a1 : Nat} {a2 : Nat} {x3 : Int32} {x4 : Int32} {x5 : Int32} (hk1 : knd a1 = 3) (hk2 : knd a2 = 3), L_X7_addMeetings_27 N rec_2 f m a1 a2 x3 x4 x5 = some (r, m') → AW K 0 27 [(0, q_r 0), (1, q_r a1), (2, q_r a2), (3, q_i x3), (4, q_i x4), (5, q_i x5)] [] m := by
  intro f
  induction f with
  | zero => intro m a1 a2 x3 x4 x5 hk1 hk2 hF; cases hF
  | succ f hrec_27 =>
    intro m a1 a2 x3 x4 x5 hk1 hk2 hF
    have hF : S_X7_addMeetings_27 N rec_2 (L_X7_addMeetings_27 N rec_2 f) m a1 a2 x3 x4 x5 = some (r, m') := hF
    unfold S_X7_addMeetings_27 at hF
    refine aw_iload hK 5 rfl dX7_addMeetings_27 ?_
    refine aw_aload_n hK 2 rfl dX7_addMeetings_29 ?_
    refine gf_3_0 hK hk2 (a2 + 1) rfl (List.mem_of_getElem? (i := 1) rfl) dX7_addMeetings_30 ?_
    refine gf_0_2 hK (kM1 hk2) (List.mem_of_getElem? (i := 2) rfl) dX7_addMeetings_33 ?_
    refine aw_icmp_ge hK 163 rfl dX7_addMeetings_36 (fun hc => ?_) (fun hc => ?_)
    · have hF := if_t hF hc
      obtain ⟨y3, hy3, hF⟩ := bnd_some hF
      refine aw_iinc hK (cz := 1) 3 [(3, q_i y3), (0, q_r 0), (1, q_r a1), (2, q_r a2), (4, q_i x4), (5, q_i x5)] (by decide) rfl rfl hy3 rfl dX7_addMeetings_163 ?_
      refine aw_goto hK 2 rfl dX7_addMeetings_166 ?_
      refine aw_sub [1, 2, 3, 0] (lv' := [(0, q_r 0), (1, q_r a1), (2, q_r a2), (3, q_i y3)]) rfl ?_
      exact hrec_2 hk1 hk2 hF
    · have hF := if_f hF hc
      refine aw_aload_n hK 2 rfl dX7_addMeetings_39 ?_
      refine gf_3_0 hK hk2 (a2 + 1) rfl (List.mem_of_getElem? (i := 1) rfl) dX7_addMeetings_40 ?_
      refine gf_0_0 hK (kM1 hk2) ((a2 + 1) + 1) rfl (List.mem_of_getElem? (i := 3) rfl) dX7_addMeetings_43 ?_
      refine aw_iload hK 5 rfl dX7_addMeetings_46 ?_
      obtain ⟨g4, hF⟩ := gd_some hF
      refine aw_iald hK (kA1 (kM1 hk2)) g4 dX7_addMeetings_48 ?_
      obtain ⟨y5, hy5, hF⟩ := bnd_some hF
      refine aw_nm hy5 ?_
      refine aw_istore hK [(6, q_i y5), (0, q_r 0), (1, q_r a1), (2, q_r a2), (3, q_i x3), (4, q_i x4), (5, q_i x5)] (by decide) rfl dX7_addMeetings_49 ?_
      refine aw_iload hK 5 rfl dX7_addMeetings_51 ?_
      refine aw_cs hK (as := [q_i x4]) (trp_X7_lowerOf x4 _) gX7_addMeetings_X7_lowerOf rfl (na := 1) (by decide +kernel) rfl ⟨by decide, by decide⟩ (Nat.zero_le _) (Nat.le_of_ble_eq_true rfl) dX7_addMeetings_53 ?_
      refine aw_bipush hK (8) rfl dX7_addMeetings_56 ?_
      refine aw_icmp_eq hK 157 rfl dX7_addMeetings_58 (fun hc => ?_) (fun hc => ?_)
      · have hF := if_t hF hc
        refine aw_sub [1, 2, 3, 4, 5, 6] (lv' := [(0, q_r 0), (1, q_r a1), (2, q_r a2), (3, q_i x3), (4, q_i x4), (5, q_i x5)]) rfl ?_
        exact bk_X7_addMeetings_157 hK hR hrec_2 hrec_27 hk1 hk2 hF
      · have hF := if_f hF hc
        refine aw_iload hK 5 rfl dX7_addMeetings_61 ?_
        refine aw_cs hK (as := [q_i x4]) (trp_X7_lowerOf x4 _) gX7_addMeetings_X7_lowerOf rfl (na := 1) (by decide +kernel) rfl ⟨by decide, by decide⟩ (Nat.zero_le _) (Nat.le_of_ble_eq_true rfl) dX7_addMeetings_63 ?_
        refine aw_iload hK 0 rfl dX7_addMeetings_66 ?_
        refine aw_cs hK (as := [q_i y5]) (trp_X7_upperOf y5 _) gX7_addMeetings_X7_upperOf rfl (na := 1) (by decide +kernel) rfl ⟨by decide, by decide⟩ (Nat.zero_le _) (Nat.le_of_ble_eq_true rfl) dX7_addMeetings_68 ?_
        refine aw_icmp_ne hK 157 rfl dX7_addMeetings_71 (fun hc => ?_) (fun hc => ?_)
        · have hF := if_f hF hc
          refine aw_sub [1, 2, 3, 4, 5, 6] (lv' := [(0, q_r 0), (1, q_r a1), (2, q_r a2), (3, q_i x3), (4, q_i x4), (5, q_i x5)]) rfl ?_
          exact bk_X7_addMeetings_157 hK hR hrec_2 hrec_27 hk1 hk2 hF
        · have hF := if_t hF hc
          refine aw_aload_n hK 2 rfl dX7_addMeetings_74 ?_
          refine gf_3_0 hK hk1 (a1 + 1) rfl (List.mem_of_getElem? (i := 1) rfl) dX7_addMeetings_75 ?_
          refine gf_0_1 hK (kM1 hk1) ((a1 + 1) + 2) rfl (List.mem_of_getElem? (i := 4) rfl) dX7_addMeetings_78 ?_
          refine aw_iload_n hK 4 rfl dX7_addMeetings_81 ?_
          obtain ⟨g6, hF⟩ := gd_some hF
          refine aw_iald hK (kA2 (kM1 hk1)) g6 dX7_addMeetings_82 ?_
          refine aw_aload_n hK 3 rfl dX7_addMeetings_83 ?_
          refine gf_3_0 hK hk2 (a2 + 1) rfl (List.mem_of_getElem? (i := 1) rfl) dX7_addMeetings_84 ?_
          refine gf_0_1 hK (kM1 hk2) ((a2 + 1) + 2) rfl (List.mem_of_getElem? (i := 4) rfl) dX7_addMeetings_87 ?_
          refine aw_iload hK 6 rfl dX7_addMeetings_90 ?_
          obtain ⟨g7, hF⟩ := gd_some hF
          refine aw_iald hK (kA2 (kM1 hk2)) g7 dX7_addMeetings_92 ?_
          refine aw_iadd hK dX7_addMeetings_93 ?_
          obtain ⟨y8, hy8, hF⟩ := bnd_some hF
          refine aw_nm hy8 ?_
          refine aw_istore hK [(7, q_i y8), (6, q_i y5), (0, q_r 0), (1, q_r a1), (2, q_r a2), (3, q_i x3), (4, q_i x4), (5, q_i x5)] (by decide) rfl dX7_addMeetings_94 ?_
          refine aw_iload hK 0 rfl dX7_addMeetings_96 ?_
          refine aw_ldc_w hK (1000000) (List.mem_of_getElem? (i := 5) rfl) dX7_addMeetings_98 ?_
          refine aw_icmp_le hK 106 rfl dX7_addMeetings_101 (fun hc => ?_) (fun hc => ?_)
          · have hF := if_t hF hc
            refine aw_aload_n hK 2 rfl dX7_addMeetings_106 ?_
            refine gf_7_4 hK rfl (3) rfl (List.mem_of_getElem? (i := 6) rfl) dX7_addMeetings_107 ?_
            refine aw_iload hK 6 rfl dX7_addMeetings_110 ?_
            refine aw_cs hK (as := [q_i x4]) (trp_X7_fromOf x4 _) gX7_addMeetings_X7_fromOf rfl (na := 1) (by decide +kernel) rfl ⟨by decide, by decide⟩ (Nat.zero_le _) (Nat.le_of_ble_eq_true rfl) dX7_addMeetings_112 ?_
            refine aw_aload_n hK 4 rfl dX7_addMeetings_115 ?_
            refine gf_3_1 hK hk2 (List.mem_of_getElem? (i := 7) rfl) dX7_addMeetings_116 ?_
            refine aw_imul hK dX7_addMeetings_119 ?_
            refine aw_iload hK 1 rfl dX7_addMeetings_120 ?_
            refine aw_cs hK (as := [q_i y5]) (trp_X7_fromOf y5 _) gX7_addMeetings_X7_fromOf rfl (na := 1) (by decide +kernel) rfl ⟨by decide, by decide⟩ (Nat.zero_le _) (Nat.le_of_ble_eq_true rfl) dX7_addMeetings_122 ?_
            refine aw_iadd hK dX7_addMeetings_125 ?_
            refine aw_iload hK 6 rfl dX7_addMeetings_126 ?_
            refine aw_cs hK (as := [q_i x4]) (trp_X7_upperOf x4 _) gX7_addMeetings_X7_upperOf rfl (na := 1) (by decide +kernel) rfl ⟨by decide, by decide⟩ (Nat.zero_le _) (Nat.le_of_ble_eq_true rfl) dX7_addMeetings_128 ?_
            refine aw_iload hK 1 rfl dX7_addMeetings_131 ?_
            refine aw_cs hK (as := [q_i y5]) (trp_X7_lowerOf y5 _) gX7_addMeetings_X7_lowerOf rfl (na := 1) (by decide +kernel) rfl ⟨by decide, by decide⟩ (Nat.zero_le _) (Nat.le_of_ble_eq_true rfl) dX7_addMeetings_133 ?_
            refine aw_iload hK 0 rfl dX7_addMeetings_136 ?_
            refine aw_iload hK 6 rfl dX7_addMeetings_138 ?_
            refine aw_cs hK (as := [q_i x4]) (trp_X7_toOf x4 _) gX7_addMeetings_X7_toOf rfl (na := 1) (by decide +kernel) rfl ⟨by decide, by decide⟩ (Nat.zero_le _) (Nat.le_of_ble_eq_true rfl) dX7_addMeetings_140 ?_
            refine aw_aload_n hK 4 rfl dX7_addMeetings_143 ?_
            refine gf_3_1 hK hk2 (List.mem_of_getElem? (i := 7) rfl) dX7_addMeetings_144 ?_
            refine aw_imul hK dX7_addMeetings_147 ?_
            refine aw_iload hK 1 rfl dX7_addMeetings_148 ?_
            refine aw_cs hK (as := [q_i y5]) (trp_X7_toOf y5 _) gX7_addMeetings_X7_toOf rfl (na := 1) (by decide +kernel) rfl ⟨by decide, by decide⟩ (Nat.zero_le _) (Nat.le_of_ble_eq_true rfl) dX7_addMeetings_150 ?_
            refine aw_iadd hK dX7_addMeetings_153 ?_
            obtain ⟨m10, h9, hF⟩ := calv_some hF
            refine aw_cv hK 1 (as := [q_i (((P_X7_fromOf x4) * (m a2 1)) + (P_X7_fromOf y5)), q_i (P_X7_upperOf x4), q_i (P_X7_lowerOf y5), q_i y8, q_i (((P_X7_toOf x4) * (m a2 1)) + (P_X7_toOf y5))]) (tr_X1_addArc h9) gX7_addMeetings_X1_addArc rfl rfl rfl (by decide) (na := 5) (by decide +kernel) rfl ⟨by decide, by decide⟩ (Nat.zero_le _) (Nat.le_of_ble_eq_true rfl) dX7_addMeetings_154 ?_
            refine aw_sub [2, 3, 4, 5, 6, 7] (lv' := [(0, q_r 0), (1, q_r a1), (2, q_r a2), (3, q_i x3), (4, q_i x4), (5, q_i x5)]) rfl ?_
            exact bk_X7_addMeetings_157 hK hR hrec_2 hrec_27 hk1 hk2 hF
          · have hF := if_f hF hc
            refine aw_iconst hK (0) rfl dX7_addMeetings_104 ?_
            obtain ⟨rfl, rfl⟩ := so_inj hF
            exact aw_iret hK hR rfl dX7_addMeetings_105
def S_X7_addMeetings_2 (N : Nat) (rec_2 : Mem → Nat → Nat → Int32 → Option (Int32 × Mem)) (m : Mem) (a1 : Nat) (a2 : Nat) (x3 : Int32) : Option (Int32 × Mem) :=
  if (m (a1 + 1) 2) ≤ x3 then (
    some ((1 : Int32), m)
  ) else (
    gd (inb x3 (alen ((a1 + 1) + 1))) <|
    bnd (m ((a1 + 1) + 1) (ix x3)) fun y2 =>
    L_X7_addMeetings_27 N rec_2 N m a1 a2 x3 y2 (0 : Int32)
  )
def L_X7_addMeetings_2 (N : Nat) : Nat → Mem → Nat → Nat → Int32 → Option (Int32 × Mem)
  | 0 => fun _ _ _ _ => none
  | f + 1 => S_X7_addMeetings_2 N (L_X7_addMeetings_2 N f)
set_option maxRecDepth 100000 in
set_option maxHeartbeats 4000000 in
theorem lp_X7_addMeetings_2 {N : Nat} {K : KT} {m' : Mem} {r : Int32} (hK : KOK K cX7_addMeetings 8 RX7 wsX7_addMeetings 2 0 48) (hR : KRet K (some .boolean) (some r) m') : ∀ (f : Nat) {m : Mem} {a1 : Nat} {a2 : Nat} {x3 : Int32} (hk1 : knd a1 = 3) (hk2 : knd a2 = 3), L_X7_addMeetings_2 N f m a1 a2 x3 = some (r, m') → AW K 0 2 [(0, q_r 0), (1, q_r a1), (2, q_r a2), (3, q_i x3)] [] m := by
  intro f
  induction f with
  | zero => intro m a1 a2 x3 hk1 hk2 hF; cases hF
  | succ f hrec_2 =>
    intro m a1 a2 x3 hk1 hk2 hF
    have hF : S_X7_addMeetings_2 N (L_X7_addMeetings_2 N f) m a1 a2 x3 = some (r, m') := hF
    unfold S_X7_addMeetings_2 at hF
    refine aw_iload_n hK 3 rfl dX7_addMeetings_2 ?_
    refine aw_aload_n hK 1 rfl dX7_addMeetings_3 ?_
    refine gf_3_0 hK hk1 (a1 + 1) rfl (List.mem_of_getElem? (i := 1) rfl) dX7_addMeetings_4 ?_
    refine gf_0_2 hK (kM1 hk1) (List.mem_of_getElem? (i := 2) rfl) dX7_addMeetings_7 ?_
    refine aw_icmp_ge hK 169 rfl dX7_addMeetings_10 (fun hc => ?_) (fun hc => ?_)
    · have hF := if_t hF hc
      refine aw_iconst hK (1) rfl dX7_addMeetings_169 ?_
      obtain ⟨rfl, rfl⟩ := so_inj hF
      exact aw_iret hK hR rfl dX7_addMeetings_170
    · have hF := if_f hF hc
      refine aw_aload_n hK 1 rfl dX7_addMeetings_13 ?_
      refine gf_3_0 hK hk1 (a1 + 1) rfl (List.mem_of_getElem? (i := 1) rfl) dX7_addMeetings_14 ?_
      refine gf_0_0 hK (kM1 hk1) ((a1 + 1) + 1) rfl (List.mem_of_getElem? (i := 3) rfl) dX7_addMeetings_17 ?_
      refine aw_iload_n hK 3 rfl dX7_addMeetings_20 ?_
      obtain ⟨g1, hF⟩ := gd_some hF
      refine aw_iald hK (kA1 (kM1 hk1)) g1 dX7_addMeetings_21 ?_
      obtain ⟨y2, hy2, hF⟩ := bnd_some hF
      refine aw_nm hy2 ?_
      refine aw_istore hK [(4, q_i y2), (0, q_r 0), (1, q_r a1), (2, q_r a2), (3, q_i x3)] (by decide) rfl dX7_addMeetings_22 ?_
      refine aw_iconst hK (0) rfl dX7_addMeetings_24 ?_
      refine aw_istore hK [(5, q_i (0 : Int32)), (4, q_i y2), (0, q_r 0), (1, q_r a1), (2, q_r a2), (3, q_i x3)] (by decide) rfl dX7_addMeetings_25 ?_
      refine aw_sub [2, 3, 4, 5, 1, 0] (lv' := [(0, q_r 0), (1, q_r a1), (2, q_r a2), (3, q_i x3), (4, q_i y2), (5, q_i (0 : Int32))]) rfl ?_
      exact lp_X7_addMeetings_27 hK hR hrec_2 _ hk1 hk2 hF
def F_X7_addMeetings (N : Nat) (m : Mem) (a1 : Nat) (a2 : Nat) : Option (Int32 × Mem) :=
  L_X7_addMeetings_2 N N m a1 a2 (0 : Int32)
set_option maxRecDepth 100000 in
set_option maxHeartbeats 4000000 in
theorem tr_X7_addMeetings {N : Nat} {m m' : Mem} {r : Int32} {a1 : Nat} {a2 : Nat} (hk1 : knd a1 = 3) (hk2 : knd a2 = 3) (hF : F_X7_addMeetings N m a1 a2 = some (r, m')) : Tr yX7_addMeetings wsX7_addMeetings 2 48 [q_r 0, q_r a1, q_r a2] m (some r) m' := by
  refine tr_of (bytes := cX7_addMeetings) (maxL := 8) (ret := (some .boolean)) (by decide) rfl (Nat.le_of_ble_eq_true rfl) (fun K hK hR => ?_)
  have hK : KOK K cX7_addMeetings 8 RX7 wsX7_addMeetings 2 0 48 := hK
  show AW K 0 0 [(0, q_r 0), (1, q_r a1), (2, q_r a2)] [] m
  unfold F_X7_addMeetings at hF
  refine aw_iconst hK (0) rfl dX7_addMeetings_0 ?_
  refine aw_istore_n hK [(3, q_i (0 : Int32)), (0, q_r 0), (1, q_r a1), (2, q_r a2)] (by decide) rfl dX7_addMeetings_1 ?_
  refine aw_sub [1, 2, 3, 0] (lv' := [(0, q_r 0), (1, q_r a1), (2, q_r a2), (3, q_i (0 : Int32))]) rfl ?_
  exact lp_X7_addMeetings_2 hK hR _ hk1 hk2 hF
def B_X7_addMovesOfOne_92 (N : Nat) (rec_2 : Mem → Nat → Int32 → Int32 → Option Mem) (m : Mem) (a1 : Nat) (x2 : Int32) (x3 : Int32) : Option Mem :=
  bnd (x3 + (1 : Int32)) fun y7 =>
  rec_2 m a1 x2 y7
set_option maxRecDepth 100000 in
set_option maxHeartbeats 4000000 in
theorem bk_X7_addMovesOfOne_92 {N : Nat} {K : KT} {m' : Mem} {rec_2 : Mem → Nat → Int32 → Int32 → Option Mem} (hK : KOK K cX7_addMovesOfOne 6 RX7 wsX7_addMovesOfOne 2 0 48) (hR : KRet K none none m') (hrec_2 : ∀ {m : Mem} {a1 : Nat} {x2 : Int32} {x3 : Int32} (hk1 : knd a1 = 3), rec_2 m a1 x2 x3 = some m' → AW K 0 2 [(0, q_r 0), (1, q_r a1), (2, q_i x2), (3, q_i x3)] [] m) {m : Mem} {a1 : Nat} {x2 : Int32} {x3 : Int32} (hk1 : knd a1 = 3) (hF : B_X7_addMovesOfOne_92 N rec_2 m a1 x2 x3 = some m') : AW K 0 92 [(0, q_r 0), (1, q_r a1), (2, q_i x2), (3, q_i x3)] [] m := by
  unfold B_X7_addMovesOfOne_92 at hF
  obtain ⟨y7, hy7, hF⟩ := bnd_some hF
  refine aw_iinc hK (cz := 1) 3 [(3, q_i y7), (0, q_r 0), (1, q_r a1), (2, q_i x2)] (by decide) rfl rfl hy7 rfl dX7_addMovesOfOne_92 ?_
  refine aw_goto hK 2 rfl dX7_addMovesOfOne_95 ?_
  refine aw_sub [1, 2, 3, 0] (lv' := [(0, q_r 0), (1, q_r a1), (2, q_i x2), (3, q_i y7)]) rfl ?_
  exact hrec_2 hk1 hF
def S_X7_addMovesOfOne_37 (N : Nat) (rec_2 : Mem → Nat → Int32 → Int32 → Option Mem) (rec_37 : Mem → Nat → Int32 → Int32 → Int32 → Int32 → Option Mem) (m : Mem) (a1 : Nat) (x2 : Int32) (x3 : Int32) (x4 : Int32) (x5 : Int32) : Option Mem :=
  if x2 ≤ x5 then (
    B_X7_addMovesOfOne_92 N rec_2 m a1 x2 x3
  ) else (
    gd (inb x3 (alen ((a1 + 1) + 2))) <|
    calv (F_X1_addArc N m (((P_X7_fromOf x4) * x2) + x5) (P_X7_upperOf x4) (8 : Int32) (m ((a1 + 1) + 2) (ix x3)) (((P_X7_toOf x4) * x2) + x5)) fun m5 =>
    bnd (x5 + (1 : Int32)) fun y6 =>
    rec_37 m5 a1 x2 x3 x4 y6
  )
def L_X7_addMovesOfOne_37 (N : Nat) (rec_2 : Mem → Nat → Int32 → Int32 → Option Mem) : Nat → Mem → Nat → Int32 → Int32 → Int32 → Int32 → Option Mem
  | 0 => fun _ _ _ _ _ _ => none
  | f + 1 => S_X7_addMovesOfOne_37 N rec_2 (L_X7_addMovesOfOne_37 N rec_2 f)
set_option maxRecDepth 100000 in
set_option maxHeartbeats 4000000 in
theorem lp_X7_addMovesOfOne_37 {N : Nat} {K : KT} {m' : Mem} {rec_2 : Mem → Nat → Int32 → Int32 → Option Mem} (hK : KOK K cX7_addMovesOfOne 6 RX7 wsX7_addMovesOfOne 2 0 48) (hR : KRet K none none m') (hrec_2 : ∀ {m : Mem} {a1 : Nat} {x2 : Int32} {x3 : Int32} (hk1 : knd a1 = 3), rec_2 m a1 x2 x3 = some m' → AW K 0 2 [(0, q_r 0), (1, q_r a1), (2, q_i x2), (3, q_i x3)] [] m) : ∀ (f : Nat) {m : Mem} {a1 : Nat} {x2 : Int32} {x3 : Int32} {x4 : Int32} {x5 : Int32} (hk1 : knd a1 = 3), L_X7_addMovesOfOne_37 N rec_2 f m a1 x2 x3 x4 x5 = some m' → AW K 0 37 [(0, q_r 0), (1, q_r a1), (2, q_i x2), (3, q_i x3), (4, q_i x4), (5, q_i x5)] [] m := by
  intro f
  induction f with
  | zero => intro m a1 x2 x3 x4 x5 hk1 hF; cases hF
  | succ f hrec_37 =>
    intro m a1 x2 x3 x4 x5 hk1 hF
    have hF : S_X7_addMovesOfOne_37 N rec_2 (L_X7_addMovesOfOne_37 N rec_2 f) m a1 x2 x3 x4 x5 = some m' := hF
    unfold S_X7_addMovesOfOne_37 at hF
    refine aw_iload hK 5 rfl dX7_addMovesOfOne_37 ?_
    refine aw_iload_n hK 2 rfl dX7_addMovesOfOne_39 ?_
    refine aw_icmp_ge hK 92 rfl dX7_addMovesOfOne_40 (fun hc => ?_) (fun hc => ?_)
    · have hF := if_t hF hc
      refine aw_sub [0, 1, 2, 3] (lv' := [(0, q_r 0), (1, q_r a1), (2, q_i x2), (3, q_i x3)]) rfl ?_
      exact bk_X7_addMovesOfOne_92 hK hR hrec_2 hk1 hF
    · have hF := if_f hF hc
      refine aw_aload_n hK 0 rfl dX7_addMovesOfOne_43 ?_
      refine gf_7_4 hK rfl (3) rfl (List.mem_of_getElem? (i := 4) rfl) dX7_addMovesOfOne_44 ?_
      refine aw_iload hK 4 rfl dX7_addMovesOfOne_47 ?_
      refine aw_cs hK (as := [q_i x4]) (trp_X7_fromOf x4 _) gX7_addMovesOfOne_X7_fromOf rfl (na := 1) (by decide +kernel) rfl ⟨by decide, by decide⟩ (Nat.zero_le _) (Nat.le_of_ble_eq_true rfl) dX7_addMovesOfOne_49 ?_
      refine aw_iload_n hK 2 rfl dX7_addMovesOfOne_52 ?_
      refine aw_imul hK dX7_addMovesOfOne_53 ?_
      refine aw_iload hK 5 rfl dX7_addMovesOfOne_54 ?_
      refine aw_iadd hK dX7_addMovesOfOne_56 ?_
      refine aw_iload hK 4 rfl dX7_addMovesOfOne_57 ?_
      refine aw_cs hK (as := [q_i x4]) (trp_X7_upperOf x4 _) gX7_addMovesOfOne_X7_upperOf rfl (na := 1) (by decide +kernel) rfl ⟨by decide, by decide⟩ (Nat.zero_le _) (Nat.le_of_ble_eq_true rfl) dX7_addMovesOfOne_59 ?_
      refine aw_bipush hK (8) rfl dX7_addMovesOfOne_62 ?_
      refine aw_aload_n hK 1 rfl dX7_addMovesOfOne_64 ?_
      refine gf_3_0 hK hk1 (a1 + 1) rfl (List.mem_of_getElem? (i := 1) rfl) dX7_addMovesOfOne_65 ?_
      refine gf_0_1 hK (kM1 hk1) ((a1 + 1) + 2) rfl (List.mem_of_getElem? (i := 5) rfl) dX7_addMovesOfOne_68 ?_
      refine aw_iload_n hK 3 rfl dX7_addMovesOfOne_71 ?_
      obtain ⟨g3, hF⟩ := gd_some hF
      refine aw_iald hK (kA2 (kM1 hk1)) g3 dX7_addMovesOfOne_72 ?_
      refine aw_iload hK 4 rfl dX7_addMovesOfOne_73 ?_
      refine aw_cs hK (as := [q_i x4]) (trp_X7_toOf x4 _) gX7_addMovesOfOne_X7_toOf rfl (na := 1) (by decide +kernel) rfl ⟨by decide, by decide⟩ (Nat.zero_le _) (Nat.le_of_ble_eq_true rfl) dX7_addMovesOfOne_75 ?_
      refine aw_iload_n hK 2 rfl dX7_addMovesOfOne_78 ?_
      refine aw_imul hK dX7_addMovesOfOne_79 ?_
      refine aw_iload hK 5 rfl dX7_addMovesOfOne_80 ?_
      refine aw_iadd hK dX7_addMovesOfOne_82 ?_
      obtain ⟨m5, h4, hF⟩ := calv_some hF
      refine aw_cv hK 1 (as := [q_i (((P_X7_fromOf x4) * x2) + x5), q_i (P_X7_upperOf x4), q_i (8 : Int32), q_i (m ((a1 + 1) + 2) (ix x3)), q_i (((P_X7_toOf x4) * x2) + x5)]) (tr_X1_addArc h4) gX7_addMovesOfOne_X1_addArc rfl rfl rfl (by decide) (na := 5) (by decide +kernel) rfl ⟨by decide, by decide⟩ (Nat.zero_le _) (Nat.le_of_ble_eq_true rfl) dX7_addMovesOfOne_83 ?_
      obtain ⟨y6, hy6, hF⟩ := bnd_some hF
      refine aw_iinc hK (cz := 1) 5 [(5, q_i y6), (0, q_r 0), (1, q_r a1), (2, q_i x2), (3, q_i x3), (4, q_i x4)] (by decide) rfl rfl hy6 rfl dX7_addMovesOfOne_86 ?_
      refine aw_goto hK 37 rfl dX7_addMovesOfOne_89 ?_
      refine aw_sub [1, 2, 3, 4, 5, 0] (lv' := [(0, q_r 0), (1, q_r a1), (2, q_i x2), (3, q_i x3), (4, q_i x4), (5, q_i y6)]) rfl ?_
      exact hrec_37 hk1 hF
def S_X7_addMovesOfOne_2 (N : Nat) (rec_2 : Mem → Nat → Int32 → Int32 → Option Mem) (m : Mem) (a1 : Nat) (x2 : Int32) (x3 : Int32) : Option Mem :=
  if (m (a1 + 1) 2) ≤ x3 then (
    some m
  ) else (
    gd (inb x3 (alen ((a1 + 1) + 1))) <|
    bnd (m ((a1 + 1) + 1) (ix x3)) fun y2 =>
    if (P_X7_lowerOf y2) = (8 : Int32) then (
      L_X7_addMovesOfOne_37 N rec_2 N m a1 x2 x3 y2 (0 : Int32)
    ) else (
      B_X7_addMovesOfOne_92 N rec_2 m a1 x2 x3
    )
  )
def L_X7_addMovesOfOne_2 (N : Nat) : Nat → Mem → Nat → Int32 → Int32 → Option Mem
  | 0 => fun _ _ _ _ => none
  | f + 1 => S_X7_addMovesOfOne_2 N (L_X7_addMovesOfOne_2 N f)
set_option maxRecDepth 100000 in
set_option maxHeartbeats 4000000 in
theorem lp_X7_addMovesOfOne_2 {N : Nat} {K : KT} {m' : Mem} (hK : KOK K cX7_addMovesOfOne 6 RX7 wsX7_addMovesOfOne 2 0 48) (hR : KRet K none none m') : ∀ (f : Nat) {m : Mem} {a1 : Nat} {x2 : Int32} {x3 : Int32} (hk1 : knd a1 = 3), L_X7_addMovesOfOne_2 N f m a1 x2 x3 = some m' → AW K 0 2 [(0, q_r 0), (1, q_r a1), (2, q_i x2), (3, q_i x3)] [] m := by
  intro f
  induction f with
  | zero => intro m a1 x2 x3 hk1 hF; cases hF
  | succ f hrec_2 =>
    intro m a1 x2 x3 hk1 hF
    have hF : S_X7_addMovesOfOne_2 N (L_X7_addMovesOfOne_2 N f) m a1 x2 x3 = some m' := hF
    unfold S_X7_addMovesOfOne_2 at hF
    refine aw_iload_n hK 3 rfl dX7_addMovesOfOne_2 ?_
    refine aw_aload_n hK 1 rfl dX7_addMovesOfOne_3 ?_
    refine gf_3_0 hK hk1 (a1 + 1) rfl (List.mem_of_getElem? (i := 1) rfl) dX7_addMovesOfOne_4 ?_
    refine gf_0_2 hK (kM1 hk1) (List.mem_of_getElem? (i := 2) rfl) dX7_addMovesOfOne_7 ?_
    refine aw_icmp_ge hK 98 rfl dX7_addMovesOfOne_10 (fun hc => ?_) (fun hc => ?_)
    · have hF := if_t hF hc
      obtain rfl := Option.some.inj hF
      exact aw_vret hK hR dX7_addMovesOfOne_98
    · have hF := if_f hF hc
      refine aw_aload_n hK 1 rfl dX7_addMovesOfOne_13 ?_
      refine gf_3_0 hK hk1 (a1 + 1) rfl (List.mem_of_getElem? (i := 1) rfl) dX7_addMovesOfOne_14 ?_
      refine gf_0_0 hK (kM1 hk1) ((a1 + 1) + 1) rfl (List.mem_of_getElem? (i := 3) rfl) dX7_addMovesOfOne_17 ?_
      refine aw_iload_n hK 3 rfl dX7_addMovesOfOne_20 ?_
      obtain ⟨g1, hF⟩ := gd_some hF
      refine aw_iald hK (kA1 (kM1 hk1)) g1 dX7_addMovesOfOne_21 ?_
      obtain ⟨y2, hy2, hF⟩ := bnd_some hF
      refine aw_nm hy2 ?_
      refine aw_istore hK [(4, q_i y2), (0, q_r 0), (1, q_r a1), (2, q_i x2), (3, q_i x3)] (by decide) rfl dX7_addMovesOfOne_22 ?_
      refine aw_iload hK 0 rfl dX7_addMovesOfOne_24 ?_
      refine aw_cs hK (as := [q_i y2]) (trp_X7_lowerOf y2 _) gX7_addMovesOfOne_X7_lowerOf rfl (na := 1) (by decide +kernel) rfl ⟨by decide, by decide⟩ (Nat.zero_le _) (Nat.le_of_ble_eq_true rfl) dX7_addMovesOfOne_26 ?_
      refine aw_bipush hK (8) rfl dX7_addMovesOfOne_29 ?_
      refine aw_icmp_ne hK 92 rfl dX7_addMovesOfOne_31 (fun hc => ?_) (fun hc => ?_)
      · have hF := if_f hF hc
        refine aw_sub [1, 2, 3, 4] (lv' := [(0, q_r 0), (1, q_r a1), (2, q_i x2), (3, q_i x3)]) rfl ?_
        exact bk_X7_addMovesOfOne_92 hK hR hrec_2 hk1 hF
      · have hF := if_t hF hc
        refine aw_iconst hK (0) rfl dX7_addMovesOfOne_34 ?_
        refine aw_istore hK [(5, q_i (0 : Int32)), (4, q_i y2), (0, q_r 0), (1, q_r a1), (2, q_i x2), (3, q_i x3)] (by decide) rfl dX7_addMovesOfOne_35 ?_
        refine aw_sub [2, 3, 4, 5, 1, 0] (lv' := [(0, q_r 0), (1, q_r a1), (2, q_i x2), (3, q_i x3), (4, q_i y2), (5, q_i (0 : Int32))]) rfl ?_
        exact lp_X7_addMovesOfOne_37 hK hR hrec_2 _ hk1 hF
def F_X7_addMovesOfOne (N : Nat) (m : Mem) (a1 : Nat) (x2 : Int32) : Option Mem :=
  L_X7_addMovesOfOne_2 N N m a1 x2 (0 : Int32)
set_option maxRecDepth 100000 in
set_option maxHeartbeats 4000000 in
theorem tr_X7_addMovesOfOne {N : Nat} {m m' : Mem} {a1 : Nat} {x2 : Int32} (hk1 : knd a1 = 3) (hF : F_X7_addMovesOfOne N m a1 x2 = some m') : Tr yX7_addMovesOfOne wsX7_addMovesOfOne 2 48 [q_r 0, q_r a1, q_i x2] m none m' := by
  refine tr_of (bytes := cX7_addMovesOfOne) (maxL := 6) (ret := none) (by decide) rfl (Nat.le_of_ble_eq_true rfl) (fun K hK hR => ?_)
  have hK : KOK K cX7_addMovesOfOne 6 RX7 wsX7_addMovesOfOne 2 0 48 := hK
  show AW K 0 0 [(0, q_r 0), (1, q_r a1), (2, q_i x2)] [] m
  unfold F_X7_addMovesOfOne at hF
  refine aw_iconst hK (0) rfl dX7_addMovesOfOne_0 ?_
  refine aw_istore_n hK [(3, q_i (0 : Int32)), (0, q_r 0), (1, q_r a1), (2, q_i x2)] (by decide) rfl dX7_addMovesOfOne_1 ?_
  refine aw_sub [1, 2, 3, 0] (lv' := [(0, q_r 0), (1, q_r a1), (2, q_i x2), (3, q_i (0 : Int32))]) rfl ?_
  exact lp_X7_addMovesOfOne_2 hK hR _ hk1 hF
