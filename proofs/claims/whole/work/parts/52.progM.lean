def B_X8_hasEmpty_133 (N : Nat) (m : Mem) (s0 : Int32) : Option (Int32 × Mem) :=
  gd (isb s0) <|
  some (s0, m)
set_option maxRecDepth 100000 in
set_option maxHeartbeats 4000000 in
theorem bk_X8_hasEmpty_133 {N : Nat} {K : KT} {m' : Mem} {r : Int32} (hK : KOK K cX8_hasEmpty 7 RX8 wsX8_hasEmpty 0 0 0) (hR : KRet K (some .boolean) (some r) m') {m : Mem} {s0 : Int32} (hF : B_X8_hasEmpty_133 N m s0 = some (r, m')) : AW K 0 133 [] [q_i s0] m := by
  unfold B_X8_hasEmpty_133 at hF
  obtain ⟨g11, hF⟩ := gd_some hF
  obtain ⟨rfl, rfl⟩ := so_inj hF
  exact aw_iret hK hR (isb_narrow g11) dX8_hasEmpty_133
def B_X8_hasEmpty_103 (N : Nat) (rec_5 : Mem → Int32 → Int32 → Int32 → Int32 → Option (Int32 × Mem)) (rec_19 : Mem → Int32 → Int32 → Int32 → Int32 → Int32 → Option (Int32 × Mem)) (m : Mem) (x1 : Int32) (x2 : Int32) (x4 : Int32) (x5 : Int32) (s0 : Int32) (s1 : Int32) : Option (Int32 × Mem) :=
  bnd (s1 ||| s0) fun y9 =>
  bnd (x5 + (1 : Int32)) fun y10 =>
  rec_19 m x1 x2 y9 x4 y10
set_option maxRecDepth 100000 in
set_option maxHeartbeats 4000000 in
theorem bk_X8_hasEmpty_103 {N : Nat} {K : KT} {m' : Mem} {rec_5 : Mem → Int32 → Int32 → Int32 → Int32 → Option (Int32 × Mem)} {rec_19 : Mem → Int32 → Int32 → Int32 → Int32 → Int32 → Option (Int32 × Mem)} {r : Int32} (hK : KOK K cX8_hasEmpty 7 RX8 wsX8_hasEmpty 0 0 0) (hR : KRet K (some .boolean) (some r) m') (hrec_5 : ∀ {m : Mem} {x1 : Int32} {x2 : Int32} {x3 : Int32} {x4 : Int32}, rec_5 m x1 x2 x3 x4 = some (r, m') → AW K 0 5 [(0, q_r 70), (1, q_i x1), (2, q_i x2), (3, q_i x3), (4, q_i x4)] [] m) (hrec_19 : ∀ {m : Mem} {x1 : Int32} {x2 : Int32} {x3 : Int32} {x4 : Int32} {x5 : Int32}, rec_19 m x1 x2 x3 x4 x5 = some (r, m') → AW K 0 19 [(0, q_r 70), (1, q_i x1), (2, q_i x2), (3, q_i x3), (4, q_i x4), (5, q_i x5)] [] m) {m : Mem} {x1 : Int32} {x2 : Int32} {x4 : Int32} {x5 : Int32} {s0 : Int32} {s1 : Int32} (hF : B_X8_hasEmpty_103 N rec_5 rec_19 m x1 x2 x4 x5 s0 s1 = some (r, m')) : AW K 0 103 [(0, q_r 70), (1, q_i x1), (2, q_i x2), (4, q_i x4), (5, q_i x5)] [q_i s0, q_i s1] m := by
  unfold B_X8_hasEmpty_103 at hF
  refine aw_ior hK dX8_hasEmpty_103 ?_
  obtain ⟨y9, hy9, hF⟩ := bnd_some hF
  refine aw_nm hy9 ?_
  refine aw_istore_n hK [(3, q_i y9), (0, q_r 70), (1, q_i x1), (2, q_i x2), (4, q_i x4), (5, q_i x5)] (by decide) rfl dX8_hasEmpty_104 ?_
  obtain ⟨y10, hy10, hF⟩ := bnd_some hF
  refine aw_iinc hK (cz := 1) 5 [(5, q_i y10), (3, q_i y9), (0, q_r 70), (1, q_i x1), (2, q_i x2), (4, q_i x4)] (by decide) rfl rfl hy10 rfl dX8_hasEmpty_105 ?_
  refine aw_goto hK 19 rfl dX8_hasEmpty_108 ?_
  refine aw_sub [2, 3, 4, 1, 5, 0] (lv' := [(0, q_r 70), (1, q_i x1), (2, q_i x2), (3, q_i y9), (4, q_i x4), (5, q_i y10)]) rfl ?_
  exact hrec_19 hF
def B_X8_hasEmpty_82 (N : Nat) (rec_5 : Mem → Int32 → Int32 → Int32 → Int32 → Option (Int32 × Mem)) (rec_19 : Mem → Int32 → Int32 → Int32 → Int32 → Int32 → Option (Int32 × Mem)) (m : Mem) (x1 : Int32) (x2 : Int32) (x3 : Int32) (x4 : Int32) (x5 : Int32) (s0 : Int32) : Option (Int32 × Mem) :=
  if s0 = (0 : Int32) then (
    B_X8_hasEmpty_103 N rec_5 rec_19 m x1 x2 x4 x5 (0 : Int32) x3
  ) else (
    gd (inb x5 (alen 79)) <|
    B_X8_hasEmpty_103 N rec_5 rec_19 m x1 x2 x4 x5 (q_shl (1 : Int32) (m 79 (ix x5))) x3
  )
set_option maxRecDepth 100000 in
set_option maxHeartbeats 4000000 in
theorem bk_X8_hasEmpty_82 {N : Nat} {K : KT} {m' : Mem} {rec_5 : Mem → Int32 → Int32 → Int32 → Int32 → Option (Int32 × Mem)} {rec_19 : Mem → Int32 → Int32 → Int32 → Int32 → Int32 → Option (Int32 × Mem)} {r : Int32} (hK : KOK K cX8_hasEmpty 7 RX8 wsX8_hasEmpty 0 0 0) (hR : KRet K (some .boolean) (some r) m') (hrec_5 : ∀ {m : Mem} {x1 : Int32} {x2 : Int32} {x3 : Int32} {x4 : Int32}, rec_5 m x1 x2 x3 x4 = some (r, m') → AW K 0 5 [(0, q_r 70), (1, q_i x1), (2, q_i x2), (3, q_i x3), (4, q_i x4)] [] m) (hrec_19 : ∀ {m : Mem} {x1 : Int32} {x2 : Int32} {x3 : Int32} {x4 : Int32} {x5 : Int32}, rec_19 m x1 x2 x3 x4 x5 = some (r, m') → AW K 0 19 [(0, q_r 70), (1, q_i x1), (2, q_i x2), (3, q_i x3), (4, q_i x4), (5, q_i x5)] [] m) {m : Mem} {x1 : Int32} {x2 : Int32} {x3 : Int32} {x4 : Int32} {x5 : Int32} {s0 : Int32} (hF : B_X8_hasEmpty_82 N rec_5 rec_19 m x1 x2 x3 x4 x5 s0 = some (r, m')) : AW K 0 82 [(0, q_r 70), (1, q_i x1), (2, q_i x2), (3, q_i x3), (4, q_i x4), (5, q_i x5)] [q_i s0] m := by
  unfold B_X8_hasEmpty_82 at hF
  refine aw_istore hK [(6, q_i s0), (0, q_r 70), (1, q_i x1), (2, q_i x2), (3, q_i x3), (4, q_i x4), (5, q_i x5)] (by decide) rfl dX8_hasEmpty_82 ?_
  refine aw_iload_n hK 4 rfl dX8_hasEmpty_84 ?_
  refine aw_iload hK 0 rfl dX8_hasEmpty_85 ?_
  refine aw_if_eq hK 102 rfl dX8_hasEmpty_87 (fun hc => ?_) (fun hc => ?_)
  · have hF := if_t hF hc
    refine aw_iconst hK (0) rfl dX8_hasEmpty_102 ?_
    refine aw_sub [1, 2, 3, 5, 6] (lv' := [(0, q_r 70), (1, q_i x1), (2, q_i x2), (4, q_i x4), (5, q_i x5)]) rfl ?_
    exact bk_X8_hasEmpty_103 hK hR hrec_5 hrec_19 hF
  · have hF := if_f hF hc
    refine aw_iconst hK (1) rfl dX8_hasEmpty_90 ?_
    refine aw_aload_n hK 1 rfl dX8_hasEmpty_91 ?_
    refine gf_8_10 hK rfl (79) rfl (List.mem_of_getElem? (i := 5) rfl) dX8_hasEmpty_92 ?_
    refine aw_iload hK 6 rfl dX8_hasEmpty_95 ?_
    obtain ⟨g8, hF⟩ := gd_some hF
    refine aw_iald hK rfl g8 dX8_hasEmpty_97 ?_
    refine aw_ishl hK dX8_hasEmpty_98 ?_
    refine aw_goto hK 103 rfl dX8_hasEmpty_99 ?_
    refine aw_sub [1, 2, 3, 5, 6] (lv' := [(0, q_r 70), (1, q_i x1), (2, q_i x2), (4, q_i x4), (5, q_i x5)]) rfl ?_
    exact bk_X8_hasEmpty_103 hK hR hrec_5 hrec_19 hF
def B_X8_hasEmpty_81 (N : Nat) (rec_5 : Mem → Int32 → Int32 → Int32 → Int32 → Option (Int32 × Mem)) (rec_19 : Mem → Int32 → Int32 → Int32 → Int32 → Int32 → Option (Int32 × Mem)) (m : Mem) (x1 : Int32) (x2 : Int32) (x3 : Int32) (x4 : Int32) (x5 : Int32) : Option (Int32 × Mem) :=
  B_X8_hasEmpty_82 N rec_5 rec_19 m x1 x2 x3 x4 x5 (0 : Int32)
set_option maxRecDepth 100000 in
set_option maxHeartbeats 4000000 in
theorem bk_X8_hasEmpty_81 {N : Nat} {K : KT} {m' : Mem} {rec_5 : Mem → Int32 → Int32 → Int32 → Int32 → Option (Int32 × Mem)} {rec_19 : Mem → Int32 → Int32 → Int32 → Int32 → Int32 → Option (Int32 × Mem)} {r : Int32} (hK : KOK K cX8_hasEmpty 7 RX8 wsX8_hasEmpty 0 0 0) (hR : KRet K (some .boolean) (some r) m') (hrec_5 : ∀ {m : Mem} {x1 : Int32} {x2 : Int32} {x3 : Int32} {x4 : Int32}, rec_5 m x1 x2 x3 x4 = some (r, m') → AW K 0 5 [(0, q_r 70), (1, q_i x1), (2, q_i x2), (3, q_i x3), (4, q_i x4)] [] m) (hrec_19 : ∀ {m : Mem} {x1 : Int32} {x2 : Int32} {x3 : Int32} {x4 : Int32} {x5 : Int32}, rec_19 m x1 x2 x3 x4 x5 = some (r, m') → AW K 0 19 [(0, q_r 70), (1, q_i x1), (2, q_i x2), (3, q_i x3), (4, q_i x4), (5, q_i x5)] [] m) {m : Mem} {x1 : Int32} {x2 : Int32} {x3 : Int32} {x4 : Int32} {x5 : Int32} (hF : B_X8_hasEmpty_81 N rec_5 rec_19 m x1 x2 x3 x4 x5 = some (r, m')) : AW K 0 81 [(0, q_r 70), (1, q_i x1), (2, q_i x2), (3, q_i x3), (4, q_i x4), (5, q_i x5)] [] m := by
  unfold B_X8_hasEmpty_81 at hF
  refine aw_iconst hK (0) rfl dX8_hasEmpty_81 ?_
  refine aw_sub [0, 1, 2, 3, 4, 5] (lv' := [(0, q_r 70), (1, q_i x1), (2, q_i x2), (3, q_i x3), (4, q_i x4), (5, q_i x5)]) rfl ?_
  exact bk_X8_hasEmpty_82 hK hR hrec_5 hrec_19 hF
def B_X8_hasEmpty_72 (N : Nat) (rec_5 : Mem → Int32 → Int32 → Int32 → Int32 → Option (Int32 × Mem)) (rec_19 : Mem → Int32 → Int32 → Int32 → Int32 → Int32 → Option (Int32 × Mem)) (m : Mem) (x1 : Int32) (x2 : Int32) (x3 : Int32) (x4 : Int32) (x5 : Int32) (s0 : Int32) : Option (Int32 × Mem) :=
  if s0 = (8 : Int32) then (
    B_X8_hasEmpty_82 N rec_5 rec_19 m x1 x2 x3 x4 x5 (1 : Int32)
  ) else (
    B_X8_hasEmpty_81 N rec_5 rec_19 m x1 x2 x3 x4 x5
  )
set_option maxRecDepth 100000 in
set_option maxHeartbeats 4000000 in
theorem bk_X8_hasEmpty_72 {N : Nat} {K : KT} {m' : Mem} {rec_5 : Mem → Int32 → Int32 → Int32 → Int32 → Option (Int32 × Mem)} {rec_19 : Mem → Int32 → Int32 → Int32 → Int32 → Int32 → Option (Int32 × Mem)} {r : Int32} (hK : KOK K cX8_hasEmpty 7 RX8 wsX8_hasEmpty 0 0 0) (hR : KRet K (some .boolean) (some r) m') (hrec_5 : ∀ {m : Mem} {x1 : Int32} {x2 : Int32} {x3 : Int32} {x4 : Int32}, rec_5 m x1 x2 x3 x4 = some (r, m') → AW K 0 5 [(0, q_r 70), (1, q_i x1), (2, q_i x2), (3, q_i x3), (4, q_i x4)] [] m) (hrec_19 : ∀ {m : Mem} {x1 : Int32} {x2 : Int32} {x3 : Int32} {x4 : Int32} {x5 : Int32}, rec_19 m x1 x2 x3 x4 x5 = some (r, m') → AW K 0 19 [(0, q_r 70), (1, q_i x1), (2, q_i x2), (3, q_i x3), (4, q_i x4), (5, q_i x5)] [] m) {m : Mem} {x1 : Int32} {x2 : Int32} {x3 : Int32} {x4 : Int32} {x5 : Int32} {s0 : Int32} (hF : B_X8_hasEmpty_72 N rec_5 rec_19 m x1 x2 x3 x4 x5 s0 = some (r, m')) : AW K 0 72 [(0, q_r 70), (1, q_i x1), (2, q_i x2), (3, q_i x3), (4, q_i x4), (5, q_i x5)] [q_i s0] m := by
  unfold B_X8_hasEmpty_72 at hF
  refine aw_bipush hK (8) rfl dX8_hasEmpty_72 ?_
  refine aw_icmp_ne hK 81 rfl dX8_hasEmpty_74 (fun hc => ?_) (fun hc => ?_)
  · have hF := if_f hF hc
    refine aw_sub [0, 1, 2, 3, 4, 5] (lv' := [(0, q_r 70), (1, q_i x1), (2, q_i x2), (3, q_i x3), (4, q_i x4), (5, q_i x5)]) rfl ?_
    exact bk_X8_hasEmpty_81 hK hR hrec_5 hrec_19 hF
  · have hF := if_t hF hc
    refine aw_iconst hK (1) rfl dX8_hasEmpty_77 ?_
    refine aw_goto hK 82 rfl dX8_hasEmpty_78 ?_
    refine aw_sub [0, 1, 2, 3, 4, 5] (lv' := [(0, q_r 70), (1, q_i x1), (2, q_i x2), (3, q_i x3), (4, q_i x4), (5, q_i x5)]) rfl ?_
    exact bk_X8_hasEmpty_82 hK hR hrec_5 hrec_19 hF
def S_X8_hasEmpty_19 (N : Nat) (rec_5 : Mem → Int32 → Int32 → Int32 → Int32 → Option (Int32 × Mem)) (rec_19 : Mem → Int32 → Int32 → Int32 → Int32 → Int32 → Option (Int32 × Mem)) (m : Mem) (x1 : Int32) (x2 : Int32) (x3 : Int32) (x4 : Int32) (x5 : Int32) : Option (Int32 × Mem) :=
  gd (inb x1 (alen 74)) <|
  if (((160 : Int32) * x1) + (m 74 (ix x1))) ≤ x5 then (
    bnd (x4 + (1 : Int32)) fun y4 =>
    rec_5 m x1 x2 x3 y4
  ) else (
    gd (inb x5 (alen 75)) <|
    if ((q_shr x3 (m 75 (ix x5))) &&& (1 : Int32)) = (1 : Int32) then (
      if x2 = (0 : Int32) then (
        gd (inb x5 (alen 77)) <|
        B_X8_hasEmpty_72 N rec_5 rec_19 m x1 x2 x3 x4 x5 (m 77 (ix x5))
      ) else (
        gd (inb x5 (alen 76)) <|
        B_X8_hasEmpty_72 N rec_5 rec_19 m x1 x2 x3 x4 x5 (m 76 (ix x5))
      )
    ) else (
      B_X8_hasEmpty_81 N rec_5 rec_19 m x1 x2 x3 x4 x5
    )
  )
def L_X8_hasEmpty_19 (N : Nat) (rec_5 : Mem → Int32 → Int32 → Int32 → Int32 → Option (Int32 × Mem)) : Nat → Mem → Int32 → Int32 → Int32 → Int32 → Int32 → Option (Int32 × Mem)
  | 0 => fun _ _ _ _ _ _ => none
  | f + 1 => S_X8_hasEmpty_19 N rec_5 (L_X8_hasEmpty_19 N rec_5 f)
set_option maxRecDepth 100000 in
set_option maxHeartbeats 4000000 in
theorem lp_X8_hasEmpty_19 {N : Nat} {K : KT} {m' : Mem} {rec_5 : Mem → Int32 → Int32 → Int32 → Int32 → Option (Int32 × Mem)} {r : Int32} (hK : KOK K cX8_hasEmpty 7 RX8 wsX8_hasEmpty 0 0 0) (hR : KRet K (some .boolean) (some r) m') (hrec_5 : ∀ {m : Mem} {x1 : Int32} {x2 : Int32} {x3 : Int32} {x4 : Int32}, rec_5 m x1 x2 x3 x4 = some (r, m') → AW K 0 5 [(0, q_r 70), (1, q_i x1), (2, q_i x2), (3, q_i x3), (4, q_i x4)] [] m) : ∀ (f : Nat) {m : Mem} {x1 : Int32} {x2 : Int32} {x3 : Int32} {x4 : Int32} {x5 : Int32}, L_X8_hasEmpty_19 N rec_5 f m x1 x2 x3 x4 x5 = some (r, m') → AW K 0 19 [(0, q_r 70), (1, q_i x1), (2, q_i x2), (3, q_i x3), (4, q_i x4), (5, q_i x5)] [] m := by
  intro f
  induction f with
  | zero => intro m x1 x2 x3 x4 x5 hF; cases hF
  | succ f hrec_19 =>
    intro m x1 x2 x3 x4 x5 hF
    have hF : S_X8_hasEmpty_19 N rec_5 (L_X8_hasEmpty_19 N rec_5 f) m x1 x2 x3 x4 x5 = some (r, m') := hF
    unfold S_X8_hasEmpty_19 at hF
    refine aw_iload hK 5 rfl dX8_hasEmpty_19 ?_
    refine aw_sipush hK (160) rfl dX8_hasEmpty_21 ?_
    refine aw_iload_n hK 1 rfl dX8_hasEmpty_24 ?_
    refine aw_imul hK dX8_hasEmpty_25 ?_
    refine aw_aload_n hK 0 rfl dX8_hasEmpty_26 ?_
    refine gf_8_5 hK rfl (74) rfl (List.mem_of_getElem? (i := 1) rfl) dX8_hasEmpty_27 ?_
    refine aw_iload_n hK 1 rfl dX8_hasEmpty_30 ?_
    obtain ⟨g3, hF⟩ := gd_some hF
    refine aw_iald hK rfl g3 dX8_hasEmpty_31 ?_
    refine aw_iadd hK dX8_hasEmpty_32 ?_
    refine aw_icmp_ge hK 111 rfl dX8_hasEmpty_33 (fun hc => ?_) (fun hc => ?_)
    · have hF := if_t hF hc
      obtain ⟨y4, hy4, hF⟩ := bnd_some hF
      refine aw_iinc hK (cz := 1) 4 [(4, q_i y4), (0, q_r 70), (1, q_i x1), (2, q_i x2), (3, q_i x3), (5, q_i x5)] (by decide) rfl rfl hy4 rfl dX8_hasEmpty_111 ?_
      refine aw_goto hK 5 rfl dX8_hasEmpty_114 ?_
      refine aw_sub [1, 2, 3, 4, 0] (lv' := [(0, q_r 70), (1, q_i x1), (2, q_i x2), (3, q_i x3), (4, q_i y4)]) rfl ?_
      exact hrec_5 hF
    · have hF := if_f hF hc
      refine aw_iload_n hK 3 rfl dX8_hasEmpty_36 ?_
      refine aw_aload_n hK 0 rfl dX8_hasEmpty_37 ?_
      refine gf_8_6 hK rfl (75) rfl (List.mem_of_getElem? (i := 2) rfl) dX8_hasEmpty_38 ?_
      refine aw_iload hK 5 rfl dX8_hasEmpty_41 ?_
      obtain ⟨g5, hF⟩ := gd_some hF
      refine aw_iald hK rfl g5 dX8_hasEmpty_43 ?_
      refine aw_ishr hK dX8_hasEmpty_44 ?_
      refine aw_iconst hK (1) rfl dX8_hasEmpty_45 ?_
      refine aw_iand hK dX8_hasEmpty_46 ?_
      refine aw_iconst hK (1) rfl dX8_hasEmpty_47 ?_
      refine aw_icmp_ne hK 81 rfl dX8_hasEmpty_48 (fun hc => ?_) (fun hc => ?_)
      · have hF := if_f hF hc
        refine aw_sub [0, 1, 2, 3, 4, 5] (lv' := [(0, q_r 70), (1, q_i x1), (2, q_i x2), (3, q_i x3), (4, q_i x4), (5, q_i x5)]) rfl ?_
        exact bk_X8_hasEmpty_81 hK hR hrec_5 hrec_19 hF
      · have hF := if_t hF hc
        refine aw_iload_n hK 2 rfl dX8_hasEmpty_51 ?_
        refine aw_if_eq hK 65 rfl dX8_hasEmpty_52 (fun hc => ?_) (fun hc => ?_)
        · have hF := if_t hF hc
          refine aw_aload_n hK 0 rfl dX8_hasEmpty_65 ?_
          refine gf_8_8 hK rfl (77) rfl (List.mem_of_getElem? (i := 4) rfl) dX8_hasEmpty_66 ?_
          refine aw_iload hK 5 rfl dX8_hasEmpty_69 ?_
          obtain ⟨g6, hF⟩ := gd_some hF
          refine aw_iald hK rfl g6 dX8_hasEmpty_71 ?_
          refine aw_sub [0, 1, 2, 3, 4, 5] (lv' := [(0, q_r 70), (1, q_i x1), (2, q_i x2), (3, q_i x3), (4, q_i x4), (5, q_i x5)]) rfl ?_
          exact bk_X8_hasEmpty_72 hK hR hrec_5 hrec_19 hF
        · have hF := if_f hF hc
          refine aw_aload_n hK 0 rfl dX8_hasEmpty_55 ?_
          refine gf_8_7 hK rfl (76) rfl (List.mem_of_getElem? (i := 3) rfl) dX8_hasEmpty_56 ?_
          refine aw_iload hK 5 rfl dX8_hasEmpty_59 ?_
          obtain ⟨g7, hF⟩ := gd_some hF
          refine aw_iald hK rfl g7 dX8_hasEmpty_61 ?_
          refine aw_goto hK 72 rfl dX8_hasEmpty_62 ?_
          refine aw_sub [0, 1, 2, 3, 4, 5] (lv' := [(0, q_r 70), (1, q_i x1), (2, q_i x2), (3, q_i x3), (4, q_i x4), (5, q_i x5)]) rfl ?_
          exact bk_X8_hasEmpty_72 hK hR hrec_5 hrec_19 hF
def S_X8_hasEmpty_5 (N : Nat) (rec_5 : Mem → Int32 → Int32 → Int32 → Int32 → Option (Int32 × Mem)) (m : Mem) (x1 : Int32) (x2 : Int32) (x3 : Int32) (x4 : Int32) : Option (Int32 × Mem) :=
  if (32 : Int32) ≤ x4 then (
    gd (inb x1 (alen 73)) <|
    if (x3 &&& (m 73 (ix x1))) = (0 : Int32) then (
      B_X8_hasEmpty_133 N m (0 : Int32)
    ) else (
      B_X8_hasEmpty_133 N m (1 : Int32)
    )
  ) else (
    bnd ((160 : Int32) * x1) fun y2 =>
    L_X8_hasEmpty_19 N rec_5 N m x1 x2 x3 x4 y2
  )
def L_X8_hasEmpty_5 (N : Nat) : Nat → Mem → Int32 → Int32 → Int32 → Int32 → Option (Int32 × Mem)
  | 0 => fun _ _ _ _ _ => none
  | f + 1 => S_X8_hasEmpty_5 N (L_X8_hasEmpty_5 N f)
set_option maxRecDepth 100000 in
set_option maxHeartbeats 4000000 in
theorem lp_X8_hasEmpty_5 {N : Nat} {K : KT} {m' : Mem} {r : Int32} (hK : KOK K cX8_hasEmpty 7 RX8 wsX8_hasEmpty 0 0 0) (hR : KRet K (some .boolean) (some r) m') : ∀ (f : Nat) {m : Mem} {x1 : Int32} {x2 : Int32} {x3 : Int32} {x4 : Int32}, L_X8_hasEmpty_5 N f m x1 x2 x3 x4 = some (r, m') → AW K 0 5 [(0, q_r 70), (1, q_i x1), (2, q_i x2), (3, q_i x3), (4, q_i x4)] [] m := by
  intro f
  induction f with
  | zero => intro m x1 x2 x3 x4 hF; cases hF
  | succ f hrec_5 =>
    intro m x1 x2 x3 x4 hF
    have hF : S_X8_hasEmpty_5 N (L_X8_hasEmpty_5 N f) m x1 x2 x3 x4 = some (r, m') := hF
    unfold S_X8_hasEmpty_5 at hF
    refine aw_iload hK 4 rfl dX8_hasEmpty_5 ?_
    refine aw_bipush hK (32) rfl dX8_hasEmpty_7 ?_
    refine aw_icmp_ge hK 117 rfl dX8_hasEmpty_9 (fun hc => ?_) (fun hc => ?_)
    · have hF := if_t hF hc
      refine aw_iload_n hK 3 rfl dX8_hasEmpty_117 ?_
      refine aw_aload_n hK 0 rfl dX8_hasEmpty_118 ?_
      refine gf_8_4 hK rfl (73) rfl (List.mem_of_getElem? (i := 6) rfl) dX8_hasEmpty_119 ?_
      refine aw_iload_n hK 1 rfl dX8_hasEmpty_122 ?_
      obtain ⟨g1, hF⟩ := gd_some hF
      refine aw_iald hK rfl g1 dX8_hasEmpty_123 ?_
      refine aw_iand hK dX8_hasEmpty_124 ?_
      refine aw_if_eq hK 132 rfl dX8_hasEmpty_125 (fun hc => ?_) (fun hc => ?_)
      · have hF := if_t hF hc
        refine aw_iconst hK (0) rfl dX8_hasEmpty_132 ?_
        refine aw_sub [] (lv' := []) rfl ?_
        exact bk_X8_hasEmpty_133 hK hR hF
      · have hF := if_f hF hc
        refine aw_iconst hK (1) rfl dX8_hasEmpty_128 ?_
        refine aw_goto hK 133 rfl dX8_hasEmpty_129 ?_
        refine aw_sub [] (lv' := []) rfl ?_
        exact bk_X8_hasEmpty_133 hK hR hF
    · have hF := if_f hF hc
      refine aw_sipush hK (160) rfl dX8_hasEmpty_12 ?_
      refine aw_iload_n hK 1 rfl dX8_hasEmpty_15 ?_
      refine aw_imul hK dX8_hasEmpty_16 ?_
      obtain ⟨y2, hy2, hF⟩ := bnd_some hF
      refine aw_nm hy2 ?_
      refine aw_istore hK [(5, q_i y2), (0, q_r 70), (1, q_i x1), (2, q_i x2), (3, q_i x3), (4, q_i x4)] (by decide) rfl dX8_hasEmpty_17 ?_
      refine aw_sub [1, 2, 3, 4, 5, 0] (lv' := [(0, q_r 70), (1, q_i x1), (2, q_i x2), (3, q_i x3), (4, q_i x4), (5, q_i y2)]) rfl ?_
      exact lp_X8_hasEmpty_19 hK hR hrec_5 _ hF
def F_X8_hasEmpty (N : Nat) (m : Mem) (x1 : Int32) (x2 : Int32) : Option (Int32 × Mem) :=
  L_X8_hasEmpty_5 N N m x1 x2 (1 : Int32) (0 : Int32)
set_option maxRecDepth 100000 in
set_option maxHeartbeats 4000000 in
theorem tr_X8_hasEmpty {N : Nat} {m m' : Mem} {r : Int32} {x1 : Int32} {x2 : Int32} (hF : F_X8_hasEmpty N m x1 x2 = some (r, m')) : Tr yX8_hasEmpty wsX8_hasEmpty 0 0 [q_r 70, q_i x1, q_i x2] m (some r) m' := by
  refine tr_of (bytes := cX8_hasEmpty) (maxL := 7) (ret := (some .boolean)) (by decide) rfl (Nat.le_of_ble_eq_true rfl) (fun K hK hR => ?_)
  have hK : KOK K cX8_hasEmpty 7 RX8 wsX8_hasEmpty 0 0 0 := hK
  show AW K 0 0 [(0, q_r 70), (1, q_i x1), (2, q_i x2)] [] m
  unfold F_X8_hasEmpty at hF
  refine aw_iconst hK (1) rfl dX8_hasEmpty_0 ?_
  refine aw_istore_n hK [(3, q_i (1 : Int32)), (0, q_r 70), (1, q_i x1), (2, q_i x2)] (by decide) rfl dX8_hasEmpty_1 ?_
  refine aw_iconst hK (0) rfl dX8_hasEmpty_2 ?_
  refine aw_istore hK [(4, q_i (0 : Int32)), (3, q_i (1 : Int32)), (0, q_r 70), (1, q_i x1), (2, q_i x2)] (by decide) rfl dX8_hasEmpty_3 ?_
  refine aw_sub [2, 3, 4, 1, 0] (lv' := [(0, q_r 70), (1, q_i x1), (2, q_i x2), (3, q_i (1 : Int32)), (4, q_i (0 : Int32))]) rfl ?_
  exact lp_X8_hasEmpty_5 hK hR _ hF
def B_X8_repeats_55 (N : Nat) (rec_30 : Mem → Int32 → Int32 → Int32 → Option (Int32 × Mem)) (m : Mem) (x1 : Int32) (x2 : Int32) (x3 : Int32) : Option (Int32 × Mem) :=
  bnd (x3 + (1 : Int32)) fun y20 =>
  rec_30 m x1 x2 y20
set_option maxRecDepth 100000 in
set_option maxHeartbeats 4000000 in
theorem bk_X8_repeats_55 {N : Nat} {K : KT} {m' : Mem} {rec_30 : Mem → Int32 → Int32 → Int32 → Option (Int32 × Mem)} {r : Int32} (hK : KOK K cX8_repeats 4 RX8 wsX8_repeats 3 0 70) (hR : KRet K (some .boolean) (some r) m') (hrec_30 : ∀ {m : Mem} {x1 : Int32} {x2 : Int32} {x3 : Int32}, rec_30 m x1 x2 x3 = some (r, m') → AW K 0 30 [(0, q_r 70), (1, q_i x1), (2, q_i x2), (3, q_i x3)] [] m) {m : Mem} {x1 : Int32} {x2 : Int32} {x3 : Int32} (hF : B_X8_repeats_55 N rec_30 m x1 x2 x3 = some (r, m')) : AW K 0 55 [(0, q_r 70), (1, q_i x1), (2, q_i x2), (3, q_i x3)] [] m := by
  unfold B_X8_repeats_55 at hF
  obtain ⟨y20, hy20, hF⟩ := bnd_some hF
  refine aw_iinc hK (cz := 1) 3 [(3, q_i y20), (0, q_r 70), (1, q_i x1), (2, q_i x2)] (by decide) rfl rfl hy20 rfl dX8_repeats_55 ?_
  refine aw_goto hK 30 rfl dX8_repeats_58 ?_
  refine aw_sub [1, 2, 3, 0] (lv' := [(0, q_r 70), (1, q_i x1), (2, q_i x2), (3, q_i y20)]) rfl ?_
  exact hrec_30 hF
def S_X8_repeats_30 (N : Nat) (rec_30 : Mem → Int32 → Int32 → Int32 → Option (Int32 × Mem)) (m : Mem) (x1 : Int32) (x2 : Int32) (x3 : Int32) : Option (Int32 × Mem) :=
  if x2 ≤ x3 then (
    gd (inb x2 (alen 82)) <|
    bnd (mup m 82 (ix x2) (1 : Int32)) fun m10 =>
    cal (F_X8_trims N m10 x2) fun r13 m12 =>
    gd (isb r13) <|
    some (r13, m12)
  ) else (
    cal (F_X8_isEndOf N m x1 x3) fun r17 m16 =>
    if r17 = (0 : Int32) then (
      B_X8_repeats_55 N rec_30 m16 x1 x2 x3
    ) else (
      calv (F_X8_adds N m16 x3 (8 : Int32) (8 : Int32) (0 : Int32) x2) fun m19 =>
      B_X8_repeats_55 N rec_30 m19 x1 x2 x3
    )
  )
def L_X8_repeats_30 (N : Nat) : Nat → Mem → Int32 → Int32 → Int32 → Option (Int32 × Mem)
  | 0 => fun _ _ _ _ => none
  | f + 1 => S_X8_repeats_30 N (L_X8_repeats_30 N f)
set_option maxRecDepth 100000 in
set_option maxHeartbeats 4000000 in
theorem lp_X8_repeats_30 {N : Nat} {K : KT} {m' : Mem} {r : Int32} (hK : KOK K cX8_repeats 4 RX8 wsX8_repeats 3 0 70) (hR : KRet K (some .boolean) (some r) m') : ∀ (f : Nat) {m : Mem} {x1 : Int32} {x2 : Int32} {x3 : Int32}, L_X8_repeats_30 N f m x1 x2 x3 = some (r, m') → AW K 0 30 [(0, q_r 70), (1, q_i x1), (2, q_i x2), (3, q_i x3)] [] m := by
  intro f
  induction f with
  | zero => intro m x1 x2 x3 hF; cases hF
  | succ f hrec_30 =>
    intro m x1 x2 x3 hF
    have hF : S_X8_repeats_30 N (L_X8_repeats_30 N f) m x1 x2 x3 = some (r, m') := hF
    unfold S_X8_repeats_30 at hF
    refine aw_iload_n hK 3 rfl dX8_repeats_30 ?_
    refine aw_iload_n hK 2 rfl dX8_repeats_31 ?_
    refine aw_icmp_ge hK 61 rfl dX8_repeats_32 (fun hc => ?_) (fun hc => ?_)
    · have hF := if_t hF hc
      refine aw_aload_n hK 0 rfl dX8_repeats_61 ?_
      refine gf_8_15 hK rfl (82) rfl (List.mem_of_getElem? (i := 2) rfl) dX8_repeats_62 ?_
      refine aw_iload_n hK 2 rfl dX8_repeats_65 ?_
      refine aw_iconst hK (1) rfl dX8_repeats_66 ?_
      obtain ⟨g9, hF⟩ := gd_some hF
      refine aw_zast hK rfl g9 rfl dX8_repeats_67 ?_
      obtain ⟨m10, hm10, hF⟩ := bnd_some hF
      refine aw_mm hm10 ?_
      refine aw_aload_n hK 0 rfl dX8_repeats_68 ?_
      refine aw_iload_n hK 2 rfl dX8_repeats_69 ?_
      obtain ⟨r13, m12, h11, hF⟩ := cal_some hF
      refine aw_cv hK 8 (as := [q_i x2]) (tr_X8_trims h11) gX8_repeats_X8_trims rfl rfl rfl (by decide) (na := 1) (by decide +kernel) rfl ⟨by decide, by decide⟩ (Nat.zero_le _) (Nat.le_of_ble_eq_true rfl) dX8_repeats_70 ?_
      obtain ⟨g14, hF⟩ := gd_some hF
      obtain ⟨rfl, rfl⟩ := so_inj hF
      exact aw_iret hK hR (isb_narrow g14) dX8_repeats_73
    · have hF := if_f hF hc
      refine aw_aload_n hK 0 rfl dX8_repeats_35 ?_
      refine aw_iload_n hK 1 rfl dX8_repeats_36 ?_
      refine aw_iload_n hK 3 rfl dX8_repeats_37 ?_
      obtain ⟨r17, m16, h15, hF⟩ := cal_some hF
      refine aw_cv hK 8 (as := [q_i x1, q_i x3]) (tr_X8_isEndOf h15) gX8_repeats_X8_isEndOf rfl rfl rfl (by decide) (na := 2) (by decide +kernel) rfl ⟨by decide, by decide⟩ (Nat.zero_le _) (Nat.le_of_ble_eq_true rfl) dX8_repeats_38 ?_
      refine aw_if_eq hK 55 rfl dX8_repeats_41 (fun hc => ?_) (fun hc => ?_)
      · have hF := if_t hF hc
        refine aw_sub [0, 1, 2, 3] (lv' := [(0, q_r 70), (1, q_i x1), (2, q_i x2), (3, q_i x3)]) rfl ?_
        exact bk_X8_repeats_55 hK hR hrec_30 hF
      · have hF := if_f hF hc
        refine aw_aload_n hK 0 rfl dX8_repeats_44 ?_
        refine aw_iload_n hK 3 rfl dX8_repeats_45 ?_
        refine aw_bipush hK (8) rfl dX8_repeats_46 ?_
        refine aw_bipush hK (8) rfl dX8_repeats_48 ?_
        refine aw_iconst hK (0) rfl dX8_repeats_50 ?_
        refine aw_iload_n hK 2 rfl dX8_repeats_51 ?_
        obtain ⟨m19, h18, hF⟩ := calv_some hF
        refine aw_cv hK 8 (as := [q_i x3, q_i (8 : Int32), q_i (8 : Int32), q_i (0 : Int32), q_i x2]) (tr_X8_adds h18) gX8_repeats_X8_adds rfl rfl rfl (by decide) (na := 5) (by decide +kernel) rfl ⟨by decide, by decide⟩ (Nat.zero_le _) (Nat.le_of_ble_eq_true rfl) dX8_repeats_52 ?_
        refine aw_sub [0, 1, 2, 3] (lv' := [(0, q_r 70), (1, q_i x1), (2, q_i x2), (3, q_i x3)]) rfl ?_
        exact bk_X8_repeats_55 hK hR hrec_30 hF
def F_X8_repeats (N : Nat) (m : Mem) (x1 : Int32) : Option (Int32 × Mem) :=
  calv (F_X8_begins N m) fun m2 =>
  calv (F_X8_puts N m2 x1 (0 : Int32)) fun m4 =>
  gd (inb x1 (alen 72)) <|
  bnd (m4 72 (ix x1)) fun y6 =>
  calv (F_X8_adds N m4 y6 (8 : Int32) (8 : Int32) (0 : Int32) (0 : Int32)) fun m8 =>
  L_X8_repeats_30 N N m8 x1 y6 (0 : Int32)
set_option maxRecDepth 100000 in
set_option maxHeartbeats 4000000 in
theorem tr_X8_repeats {N : Nat} {m m' : Mem} {r : Int32} {x1 : Int32} (hF : F_X8_repeats N m x1 = some (r, m')) : Tr yX8_repeats wsX8_repeats 3 70 [q_r 70, q_i x1] m (some r) m' := by
  refine tr_of (bytes := cX8_repeats) (maxL := 4) (ret := (some .boolean)) (by decide) rfl (Nat.le_of_ble_eq_true rfl) (fun K hK hR => ?_)
  have hK : KOK K cX8_repeats 4 RX8 wsX8_repeats 3 0 70 := hK
  show AW K 0 0 [(0, q_r 70), (1, q_i x1)] [] m
  unfold F_X8_repeats at hF
  refine aw_aload_n hK 0 rfl dX8_repeats_0 ?_
  obtain ⟨m2, h1, hF⟩ := calv_some hF
  refine aw_cv hK 8 (as := []) (tr_X8_begins h1) gX8_repeats_X8_begins rfl rfl rfl (by decide) (na := 0) (by decide +kernel) rfl ⟨by decide, by decide⟩ (Nat.zero_le _) (Nat.le_of_ble_eq_true rfl) dX8_repeats_1 ?_
  refine aw_aload_n hK 0 rfl dX8_repeats_4 ?_
  refine aw_iload_n hK 1 rfl dX8_repeats_5 ?_
  refine aw_iconst hK (0) rfl dX8_repeats_6 ?_
  obtain ⟨m4, h3, hF⟩ := calv_some hF
  refine aw_cv hK 8 (as := [q_i x1, q_i (0 : Int32)]) (tr_X8_puts h3) gX8_repeats_X8_puts rfl rfl rfl (by decide) (na := 2) (by decide +kernel) rfl ⟨by decide, by decide⟩ (Nat.zero_le _) (Nat.le_of_ble_eq_true rfl) dX8_repeats_7 ?_
  refine aw_aload_n hK 0 rfl dX8_repeats_10 ?_
  refine gf_8_3 hK rfl (72) rfl (List.mem_of_getElem? (i := 1) rfl) dX8_repeats_11 ?_
  refine aw_iload_n hK 1 rfl dX8_repeats_14 ?_
  obtain ⟨g5, hF⟩ := gd_some hF
  refine aw_iald hK rfl g5 dX8_repeats_15 ?_
  obtain ⟨y6, hy6, hF⟩ := bnd_some hF
  refine aw_nm hy6 ?_
  refine aw_istore_n hK [(2, q_i y6), (0, q_r 70), (1, q_i x1)] (by decide) rfl dX8_repeats_16 ?_
  refine aw_aload_n hK 1 rfl dX8_repeats_17 ?_
  refine aw_iload_n hK 0 rfl dX8_repeats_18 ?_
  refine aw_bipush hK (8) rfl dX8_repeats_19 ?_
  refine aw_bipush hK (8) rfl dX8_repeats_21 ?_
  refine aw_iconst hK (0) rfl dX8_repeats_23 ?_
  refine aw_iconst hK (0) rfl dX8_repeats_24 ?_
  obtain ⟨m8, h7, hF⟩ := calv_some hF
  refine aw_cv hK 8 (as := [q_i y6, q_i (8 : Int32), q_i (8 : Int32), q_i (0 : Int32), q_i (0 : Int32)]) (tr_X8_adds h7) gX8_repeats_X8_adds rfl rfl rfl (by decide) (na := 5) (by decide +kernel) rfl ⟨by decide, by decide⟩ (Nat.zero_le _) (Nat.le_of_ble_eq_true rfl) dX8_repeats_25 ?_
  refine aw_iconst hK (0) rfl dX8_repeats_28 ?_
  refine aw_istore_n hK [(3, q_i (0 : Int32)), (2, q_i y6), (0, q_r 70), (1, q_i x1)] (by decide) rfl dX8_repeats_29 ?_
  refine aw_sub [2, 3, 1, 0] (lv' := [(0, q_r 70), (1, q_i x1), (2, q_i y6), (3, q_i (0 : Int32))]) rfl ?_
  exact lp_X8_repeats_30 hK hR _ hF
def B_X8_repeat_67 (N : Nat) (m : Mem) (s0 : Int32) : Option (Int32 × Mem) :=
  cal (F_X8_isFine N m s0) fun r18 m17 =>
  if r18 = (0 : Int32) then (
    some ((0 : Int32), m17)
  ) else (
    cal (F_X8_keeps N m17) fun r21 m20 =>
    some (r21, m20)
  )
set_option maxRecDepth 100000 in
set_option maxHeartbeats 4000000 in
theorem bk_X8_repeat_67 {N : Nat} {K : KT} {m' : Mem} {r : Int32} (hK : KOK K cX8_repeat 4 RX8 wsX8_repeat 4 0 93) (hR : KRet K (some .int) (some r) m') {m : Mem} {s0 : Int32} (hF : B_X8_repeat_67 N m s0 = some (r, m')) : AW K 0 67 [(0, q_r 70)] [q_i s0, q_r 70] m := by
  unfold B_X8_repeat_67 at hF
  obtain ⟨r18, m17, h16, hF⟩ := cal_some hF
  refine aw_cv hK 8 (as := [q_i s0]) (tr_X8_isFine h16) gX8_repeat_X8_isFine rfl rfl rfl (by decide) (na := 1) (by decide +kernel) rfl ⟨by decide, by decide⟩ (Nat.zero_le _) (Nat.le_of_ble_eq_true rfl) dX8_repeat_67 ?_
  refine aw_if_ne hK 75 rfl dX8_repeat_70 (fun hc => ?_) (fun hc => ?_)
  · have hF := if_f hF hc
    refine aw_aload_n hK 0 rfl dX8_repeat_75 ?_
    obtain ⟨r21, m20, h19, hF⟩ := cal_some hF
    refine aw_cv hK 8 (as := []) (tr_X8_keeps h19) gX8_repeat_X8_keeps rfl rfl rfl (by decide) (na := 0) (by decide +kernel) rfl ⟨by decide, by decide⟩ (Nat.zero_le _) (Nat.le_of_ble_eq_true rfl) dX8_repeat_76 ?_
    obtain ⟨rfl, rfl⟩ := so_inj hF
    exact aw_iret hK hR rfl dX8_repeat_79
  · have hF := if_t hF hc
    refine aw_iconst hK (0) rfl dX8_repeat_73 ?_
    obtain ⟨rfl, rfl⟩ := so_inj hF
    exact aw_iret hK hR rfl dX8_repeat_74
def B_X8_repeat_62 (N : Nat) (m : Mem) : Option (Int32 × Mem) :=
  B_X8_repeat_67 N m (2 : Int32)
set_option maxRecDepth 100000 in
set_option maxHeartbeats 4000000 in
theorem bk_X8_repeat_62 {N : Nat} {K : KT} {m' : Mem} {r : Int32} (hK : KOK K cX8_repeat 4 RX8 wsX8_repeat 4 0 93) (hR : KRet K (some .int) (some r) m') {m : Mem} (hF : B_X8_repeat_62 N m = some (r, m')) : AW K 0 62 [(0, q_r 70)] [q_r 70] m := by
  unfold B_X8_repeat_62 at hF
  refine aw_iconst hK (2) rfl dX8_repeat_62 ?_
  refine aw_goto hK 67 rfl dX8_repeat_63 ?_
  refine aw_sub [0] (lv' := [(0, q_r 70)]) rfl ?_
  exact bk_X8_repeat_67 hK hR hF
def B_X8_repeat_40 (N : Nat) (m : Mem) (x1 : Int32) (x2 : Int32) (s0 : Int32) : Option (Int32 × Mem) :=
  if x2 = (0 : Int32) then (
    B_X8_repeat_67 N m (1 : Int32)
  ) else (
    if s0 = (0 : Int32) then (
      B_X8_repeat_62 N m
    ) else (
      cal (F_X8_repeats N m x1) fun r15 m14 =>
      if r15 = (0 : Int32) then (
        B_X8_repeat_62 N m14
      ) else (
        B_X8_repeat_67 N m14 (0 : Int32)
      )
    )
  )
set_option maxRecDepth 100000 in
set_option maxHeartbeats 4000000 in
theorem bk_X8_repeat_40 {N : Nat} {K : KT} {m' : Mem} {r : Int32} (hK : KOK K cX8_repeat 4 RX8 wsX8_repeat 4 0 93) (hR : KRet K (some .int) (some r) m') {m : Mem} {x1 : Int32} {x2 : Int32} {s0 : Int32} (hF : B_X8_repeat_40 N m x1 x2 s0 = some (r, m')) : AW K 0 40 [(0, q_r 70), (1, q_i x1), (2, q_i x2)] [q_i s0] m := by
  unfold B_X8_repeat_40 at hF
  refine aw_istore_n hK [(3, q_i s0), (0, q_r 70), (1, q_i x1), (2, q_i x2)] (by decide) rfl dX8_repeat_40 ?_
  refine aw_aload_n hK 1 rfl dX8_repeat_41 ?_
  refine aw_iload_n hK 3 rfl dX8_repeat_42 ?_
  refine aw_if_ne hK 50 rfl dX8_repeat_43 (fun hc => ?_) (fun hc => ?_)
  · have hF := if_f hF hc
    refine aw_iload_n hK 0 rfl dX8_repeat_50 ?_
    refine aw_if_eq hK 62 rfl dX8_repeat_51 (fun hc => ?_) (fun hc => ?_)
    · have hF := if_t hF hc
      refine aw_sub [1] (lv' := [(0, q_r 70)]) rfl ?_
      exact bk_X8_repeat_62 hK hR hF
    · have hF := if_f hF hc
      refine aw_aload_n hK 1 rfl dX8_repeat_54 ?_
      refine aw_iload_n hK 2 rfl dX8_repeat_55 ?_
      obtain ⟨r15, m14, h13, hF⟩ := cal_some hF
      refine aw_cv hK 8 (as := [q_i x1]) (tr_X8_repeats h13) gX8_repeat_X8_repeats rfl rfl rfl (by decide) (na := 1) (by decide +kernel) rfl ⟨by decide, by decide⟩ (Nat.zero_le _) (Nat.le_of_ble_eq_true rfl) dX8_repeat_56 ?_
      refine aw_if_ne hK 66 rfl dX8_repeat_59 (fun hc => ?_) (fun hc => ?_)
      · have hF := if_f hF hc
        refine aw_iconst hK (0) rfl dX8_repeat_66 ?_
        refine aw_sub [1] (lv' := [(0, q_r 70)]) rfl ?_
        exact bk_X8_repeat_67 hK hR hF
      · have hF := if_t hF hc
        refine aw_sub [1] (lv' := [(0, q_r 70)]) rfl ?_
        exact bk_X8_repeat_62 hK hR hF
  · have hF := if_t hF hc
    refine aw_iconst hK (1) rfl dX8_repeat_46 ?_
    refine aw_goto hK 67 rfl dX8_repeat_47 ?_
    refine aw_sub [1] (lv' := [(0, q_r 70)]) rfl ?_
    exact bk_X8_repeat_67 hK hR hF
def B_X8_repeat_39 (N : Nat) (m : Mem) (x1 : Int32) (x2 : Int32) : Option (Int32 × Mem) :=
  B_X8_repeat_40 N m x1 x2 (0 : Int32)
set_option maxRecDepth 100000 in
set_option maxHeartbeats 4000000 in
theorem bk_X8_repeat_39 {N : Nat} {K : KT} {m' : Mem} {r : Int32} (hK : KOK K cX8_repeat 4 RX8 wsX8_repeat 4 0 93) (hR : KRet K (some .int) (some r) m') {m : Mem} {x1 : Int32} {x2 : Int32} (hF : B_X8_repeat_39 N m x1 x2 = some (r, m')) : AW K 0 39 [(0, q_r 70), (1, q_i x1), (2, q_i x2)] [] m := by
  unfold B_X8_repeat_39 at hF
  refine aw_iconst hK (0) rfl dX8_repeat_39 ?_
  refine aw_sub [0, 1, 2] (lv' := [(0, q_r 70), (1, q_i x1), (2, q_i x2)]) rfl ?_
  exact bk_X8_repeat_40 hK hR hF
def F_X8_repeat (N : Nat) (m : Mem) (x1 : Int32) : Option (Int32 × Mem) :=
  cal (F_X8_isMachine N m x1) fun r3 m2 =>
  if r3 = (0 : Int32) then (
    B_X8_repeat_39 N m2 x1 r3
  ) else (
    cal (F_X8_isThere N m2) fun r6 m5 =>
    if r6 = (0 : Int32) then (
      B_X8_repeat_39 N m5 x1 r3
    ) else (
      cal (F_X8_hasEmpty N m5 x1 (1 : Int32)) fun r9 m8 =>
      if r9 = (0 : Int32) then (
        cal (F_X8_hasEmpty N m8 x1 (0 : Int32)) fun r12 m11 =>
        if r12 = (0 : Int32) then (
          B_X8_repeat_40 N m11 x1 r3 (1 : Int32)
        ) else (
          B_X8_repeat_39 N m11 x1 r3
        )
      ) else (
        B_X8_repeat_39 N m8 x1 r3
      )
    )
  )
set_option maxRecDepth 100000 in
set_option maxHeartbeats 4000000 in
theorem tr_X8_repeat {N : Nat} {m m' : Mem} {r : Int32} {x1 : Int32} (hF : F_X8_repeat N m x1 = some (r, m')) : Tr yX8_repeat wsX8_repeat 4 93 [q_r 70, q_i x1] m (some r) m' := by
  refine tr_of (bytes := cX8_repeat) (maxL := 4) (ret := (some .int)) (by decide) rfl (Nat.le_of_ble_eq_true rfl) (fun K hK hR => ?_)
  have hK : KOK K cX8_repeat 4 RX8 wsX8_repeat 4 0 93 := hK
  show AW K 0 0 [(0, q_r 70), (1, q_i x1)] [] m
  unfold F_X8_repeat at hF
  refine aw_aload_n hK 0 rfl dX8_repeat_0 ?_
  refine aw_iload_n hK 1 rfl dX8_repeat_1 ?_
  obtain ⟨r3, m2, h1, hF⟩ := cal_some hF
  refine aw_cv hK 8 (as := [q_i x1]) (tr_X8_isMachine h1) gX8_repeat_X8_isMachine rfl rfl rfl (by decide) (na := 1) (by decide +kernel) rfl ⟨by decide, by decide⟩ (Nat.zero_le _) (Nat.le_of_ble_eq_true rfl) dX8_repeat_2 ?_
  refine aw_istore_n hK [(2, q_i r3), (0, q_r 70), (1, q_i x1)] (by decide) rfl dX8_repeat_5 ?_
  refine aw_iload_n hK 0 rfl dX8_repeat_6 ?_
  refine aw_if_eq hK 39 rfl dX8_repeat_7 (fun hc => ?_) (fun hc => ?_)
  · have hF := if_t hF hc
    refine aw_sub [1, 2, 0] (lv' := [(0, q_r 70), (1, q_i x1), (2, q_i r3)]) rfl ?_
    exact bk_X8_repeat_39 hK hR hF
  · have hF := if_f hF hc
    refine aw_aload_n hK 1 rfl dX8_repeat_10 ?_
    obtain ⟨r6, m5, h4, hF⟩ := cal_some hF
    refine aw_cv hK 8 (as := []) (tr_X8_isThere h4) gX8_repeat_X8_isThere rfl rfl rfl (by decide) (na := 0) (by decide +kernel) rfl ⟨by decide, by decide⟩ (Nat.zero_le _) (Nat.le_of_ble_eq_true rfl) dX8_repeat_11 ?_
    refine aw_if_eq hK 39 rfl dX8_repeat_14 (fun hc => ?_) (fun hc => ?_)
    · have hF := if_t hF hc
      refine aw_sub [1, 2, 0] (lv' := [(0, q_r 70), (1, q_i x1), (2, q_i r3)]) rfl ?_
      exact bk_X8_repeat_39 hK hR hF
    · have hF := if_f hF hc
      refine aw_aload_n hK 1 rfl dX8_repeat_17 ?_
      refine aw_iload_n hK 2 rfl dX8_repeat_18 ?_
      refine aw_iconst hK (1) rfl dX8_repeat_19 ?_
      obtain ⟨r9, m8, h7, hF⟩ := cal_some hF
      refine aw_cv hK 8 (as := [q_i x1, q_i (1 : Int32)]) (tr_X8_hasEmpty h7) gX8_repeat_X8_hasEmpty rfl rfl rfl (by decide) (na := 2) (by decide +kernel) rfl ⟨by decide, by decide⟩ (Nat.zero_le _) (Nat.le_of_ble_eq_true rfl) dX8_repeat_20 ?_
      refine aw_if_ne hK 39 rfl dX8_repeat_23 (fun hc => ?_) (fun hc => ?_)
      · have hF := if_f hF hc
        refine aw_sub [1, 2, 0] (lv' := [(0, q_r 70), (1, q_i x1), (2, q_i r3)]) rfl ?_
        exact bk_X8_repeat_39 hK hR hF
      · have hF := if_t hF hc
        refine aw_aload_n hK 1 rfl dX8_repeat_26 ?_
        refine aw_iload_n hK 2 rfl dX8_repeat_27 ?_
        refine aw_iconst hK (0) rfl dX8_repeat_28 ?_
        obtain ⟨r12, m11, h10, hF⟩ := cal_some hF
        refine aw_cv hK 8 (as := [q_i x1, q_i (0 : Int32)]) (tr_X8_hasEmpty h10) gX8_repeat_X8_hasEmpty rfl rfl rfl (by decide) (na := 2) (by decide +kernel) rfl ⟨by decide, by decide⟩ (Nat.zero_le _) (Nat.le_of_ble_eq_true rfl) dX8_repeat_29 ?_
        refine aw_if_ne hK 39 rfl dX8_repeat_32 (fun hc => ?_) (fun hc => ?_)
        · have hF := if_f hF hc
          refine aw_sub [1, 2, 0] (lv' := [(0, q_r 70), (1, q_i x1), (2, q_i r3)]) rfl ?_
          exact bk_X8_repeat_39 hK hR hF
        · have hF := if_t hF hc
          refine aw_iconst hK (1) rfl dX8_repeat_35 ?_
          refine aw_goto hK 40 rfl dX8_repeat_36 ?_
          refine aw_sub [1, 2, 0] (lv' := [(0, q_r 70), (1, q_i x1), (2, q_i r3)]) rfl ?_
          exact bk_X8_repeat_40 hK hR hF
def S_X8_turns_68 (N : Nat) (rec_68 : Mem → Int32 → Int32 → Option (Int32 × Mem)) (m : Mem) (x1 : Int32) (x2 : Int32) : Option (Int32 × Mem) :=
  gd (inb x1 (alen 72)) <|
  if (m 72 (ix x1)) ≤ x2 then (
    cal (F_X8_trims N m (0 : Int32)) fun r16 m15 =>
    gd (isb r16) <|
    some (r16, m15)
  ) else (
    cal (F_X8_isEndOf N m x1 x2) fun r20 m19 =>
    gd (inb x2 (alen 82)) <|
    gd (isb r20) <|
    bnd (mup m19 82 (ix x2) r20) fun m23 =>
    bnd (x2 + (1 : Int32)) fun y24 =>
    rec_68 m23 x1 y24
  )
def L_X8_turns_68 (N : Nat) : Nat → Mem → Int32 → Int32 → Option (Int32 × Mem)
  | 0 => fun _ _ _ => none
  | f + 1 => S_X8_turns_68 N (L_X8_turns_68 N f)
set_option maxRecDepth 100000 in
set_option maxHeartbeats 4000000 in
theorem lp_X8_turns_68 {N : Nat} {K : KT} {m' : Mem} {r : Int32} (hK : KOK K cX8_turns 3 RX8 wsX8_turns 3 0 70) (hR : KRet K (some .boolean) (some r) m') : ∀ (f : Nat) {m : Mem} {x1 : Int32} {x2 : Int32}, L_X8_turns_68 N f m x1 x2 = some (r, m') → AW K 0 68 [(0, q_r 70), (1, q_i x1), (2, q_i x2)] [] m := by
  intro f
  induction f with
  | zero => intro m x1 x2 hF; cases hF
  | succ f hrec_68 =>
    intro m x1 x2 hF
    have hF : S_X8_turns_68 N (L_X8_turns_68 N f) m x1 x2 = some (r, m') := hF
    unfold S_X8_turns_68 at hF
    refine aw_iload_n hK 2 rfl dX8_turns_68 ?_
    refine aw_aload_n hK 0 rfl dX8_turns_69 ?_
    refine gf_8_3 hK rfl (72) rfl (List.mem_of_getElem? (i := 7) rfl) dX8_turns_70 ?_
    refine aw_iload_n hK 1 rfl dX8_turns_73 ?_
    obtain ⟨g13, hF⟩ := gd_some hF
    refine aw_iald hK rfl g13 dX8_turns_74 ?_
    refine aw_icmp_ge hK 96 rfl dX8_turns_75 (fun hc => ?_) (fun hc => ?_)
    · have hF := if_t hF hc
      refine aw_aload_n hK 0 rfl dX8_turns_96 ?_
      refine aw_iconst hK (0) rfl dX8_turns_97 ?_
      obtain ⟨r16, m15, h14, hF⟩ := cal_some hF
      refine aw_cv hK 8 (as := [q_i (0 : Int32)]) (tr_X8_trims h14) gX8_turns_X8_trims rfl rfl rfl (by decide) (na := 1) (by decide +kernel) rfl ⟨by decide, by decide⟩ (Nat.zero_le _) (Nat.le_of_ble_eq_true rfl) dX8_turns_98 ?_
      obtain ⟨g17, hF⟩ := gd_some hF
      obtain ⟨rfl, rfl⟩ := so_inj hF
      exact aw_iret hK hR (isb_narrow g17) dX8_turns_101
    · have hF := if_f hF hc
      refine aw_aload_n hK 0 rfl dX8_turns_78 ?_
      refine gf_8_15 hK rfl (82) rfl (List.mem_of_getElem? (i := 8) rfl) dX8_turns_79 ?_
      refine aw_iload_n hK 2 rfl dX8_turns_82 ?_
      refine aw_aload_n hK 0 rfl dX8_turns_83 ?_
      refine aw_iload_n hK 1 rfl dX8_turns_84 ?_
      refine aw_iload_n hK 2 rfl dX8_turns_85 ?_
      obtain ⟨r20, m19, h18, hF⟩ := cal_some hF
      refine aw_cv hK 8 (as := [q_i x1, q_i x2]) (tr_X8_isEndOf h18) gX8_turns_X8_isEndOf rfl rfl rfl (by decide) (na := 2) (by decide +kernel) rfl ⟨by decide, by decide⟩ (Nat.zero_le _) (Nat.le_of_ble_eq_true rfl) dX8_turns_86 ?_
      obtain ⟨g21, hF⟩ := gd_some hF
      obtain ⟨g22, hF⟩ := gd_some hF
      refine aw_zast hK rfl g21 g22 dX8_turns_89 ?_
      obtain ⟨m23, hm23, hF⟩ := bnd_some hF
      refine aw_mm hm23 ?_
      obtain ⟨y24, hy24, hF⟩ := bnd_some hF
      refine aw_iinc hK (cz := 1) 2 [(2, q_i y24), (0, q_r 70), (1, q_i x1)] (by decide) rfl rfl hy24 rfl dX8_turns_90 ?_
      refine aw_goto hK 68 rfl dX8_turns_93 ?_
      refine aw_sub [1, 2, 0] (lv' := [(0, q_r 70), (1, q_i x1), (2, q_i y24)]) rfl ?_
      exact hrec_68 hF
def S_X8_turns_10 (N : Nat) (rec_10 : Mem → Int32 → Int32 → Option (Int32 × Mem)) (m : Mem) (x1 : Int32) (x2 : Int32) : Option (Int32 × Mem) :=
  gd (inb x1 (alen 74)) <|
  if (((160 : Int32) * x1) + (m 74 (ix x1))) ≤ x2 then (
    L_X8_turns_68 N N m x1 (0 : Int32)
  ) else (
    gd (inb x2 (alen 75)) <|
    gd (inb x2 (alen 77)) <|
    gd (inb x2 (alen 76)) <|
    gd (inb x2 (alen 78)) <|
    gd (inb x2 (alen 79)) <|
    calv (F_X8_adds N m (m 75 (ix x2)) (m 77 (ix x2)) (m 76 (ix x2)) (m 78 (ix x2)) (m 79 (ix x2))) fun m11 =>
    bnd (x2 + (1 : Int32)) fun y12 =>
    rec_10 m11 x1 y12
  )
def L_X8_turns_10 (N : Nat) : Nat → Mem → Int32 → Int32 → Option (Int32 × Mem)
  | 0 => fun _ _ _ => none
  | f + 1 => S_X8_turns_10 N (L_X8_turns_10 N f)
set_option maxRecDepth 100000 in
set_option maxHeartbeats 4000000 in
theorem lp_X8_turns_10 {N : Nat} {K : KT} {m' : Mem} {r : Int32} (hK : KOK K cX8_turns 3 RX8 wsX8_turns 3 0 70) (hR : KRet K (some .boolean) (some r) m') : ∀ (f : Nat) {m : Mem} {x1 : Int32} {x2 : Int32}, L_X8_turns_10 N f m x1 x2 = some (r, m') → AW K 0 10 [(0, q_r 70), (1, q_i x1), (2, q_i x2)] [] m := by
  intro f
  induction f with
  | zero => intro m x1 x2 hF; cases hF
  | succ f hrec_10 =>
    intro m x1 x2 hF
    have hF : S_X8_turns_10 N (L_X8_turns_10 N f) m x1 x2 = some (r, m') := hF
    unfold S_X8_turns_10 at hF
    refine aw_iload_n hK 2 rfl dX8_turns_10 ?_
    refine aw_sipush hK (160) rfl dX8_turns_11 ?_
    refine aw_iload_n hK 1 rfl dX8_turns_14 ?_
    refine aw_imul hK dX8_turns_15 ?_
    refine aw_aload_n hK 0 rfl dX8_turns_16 ?_
    refine gf_8_5 hK rfl (74) rfl (List.mem_of_getElem? (i := 1) rfl) dX8_turns_17 ?_
    refine aw_iload_n hK 1 rfl dX8_turns_20 ?_
    obtain ⟨g4, hF⟩ := gd_some hF
    refine aw_iald hK rfl g4 dX8_turns_21 ?_
    refine aw_iadd hK dX8_turns_22 ?_
    refine aw_icmp_ge hK 66 rfl dX8_turns_23 (fun hc => ?_) (fun hc => ?_)
    · have hF := if_t hF hc
      refine aw_iconst hK (0) rfl dX8_turns_66 ?_
      refine aw_istore_n hK [(2, q_i (0 : Int32)), (0, q_r 70), (1, q_i x1)] (by decide) rfl dX8_turns_67 ?_
      refine aw_sub [1, 2, 0] (lv' := [(0, q_r 70), (1, q_i x1), (2, q_i (0 : Int32))]) rfl ?_
      exact lp_X8_turns_68 hK hR _ hF
    · have hF := if_f hF hc
      refine aw_aload_n hK 0 rfl dX8_turns_26 ?_
      refine aw_aload_n hK 0 rfl dX8_turns_27 ?_
      refine gf_8_6 hK rfl (75) rfl (List.mem_of_getElem? (i := 2) rfl) dX8_turns_28 ?_
      refine aw_iload_n hK 2 rfl dX8_turns_31 ?_
      obtain ⟨g5, hF⟩ := gd_some hF
      refine aw_iald hK rfl g5 dX8_turns_32 ?_
      refine aw_aload_n hK 0 rfl dX8_turns_33 ?_
      refine gf_8_8 hK rfl (77) rfl (List.mem_of_getElem? (i := 3) rfl) dX8_turns_34 ?_
      refine aw_iload_n hK 2 rfl dX8_turns_37 ?_
      obtain ⟨g6, hF⟩ := gd_some hF
      refine aw_iald hK rfl g6 dX8_turns_38 ?_
      refine aw_aload_n hK 0 rfl dX8_turns_39 ?_
      refine gf_8_7 hK rfl (76) rfl (List.mem_of_getElem? (i := 4) rfl) dX8_turns_40 ?_
      refine aw_iload_n hK 2 rfl dX8_turns_43 ?_
      obtain ⟨g7, hF⟩ := gd_some hF
      refine aw_iald hK rfl g7 dX8_turns_44 ?_
      refine aw_aload_n hK 0 rfl dX8_turns_45 ?_
      refine gf_8_9 hK rfl (78) rfl (List.mem_of_getElem? (i := 5) rfl) dX8_turns_46 ?_
      refine aw_iload_n hK 2 rfl dX8_turns_49 ?_
      obtain ⟨g8, hF⟩ := gd_some hF
      refine aw_iald hK rfl g8 dX8_turns_50 ?_
      refine aw_aload_n hK 0 rfl dX8_turns_51 ?_
      refine gf_8_10 hK rfl (79) rfl (List.mem_of_getElem? (i := 6) rfl) dX8_turns_52 ?_
      refine aw_iload_n hK 2 rfl dX8_turns_55 ?_
      obtain ⟨g9, hF⟩ := gd_some hF
      refine aw_iald hK rfl g9 dX8_turns_56 ?_
      obtain ⟨m11, h10, hF⟩ := calv_some hF
      refine aw_cv hK 8 (as := [q_i (m 75 (ix x2)), q_i (m 77 (ix x2)), q_i (m 76 (ix x2)), q_i (m 78 (ix x2)), q_i (m 79 (ix x2))]) (tr_X8_adds h10) gX8_turns_X8_adds rfl rfl rfl (by decide) (na := 5) (by decide +kernel) rfl ⟨by decide, by decide⟩ (Nat.zero_le _) (Nat.le_of_ble_eq_true rfl) dX8_turns_57 ?_
      obtain ⟨y12, hy12, hF⟩ := bnd_some hF
      refine aw_iinc hK (cz := 1) 2 [(2, q_i y12), (0, q_r 70), (1, q_i x1)] (by decide) rfl rfl hy12 rfl dX8_turns_60 ?_
      refine aw_goto hK 10 rfl dX8_turns_63 ?_
      refine aw_sub [1, 2, 0] (lv' := [(0, q_r 70), (1, q_i x1), (2, q_i y12)]) rfl ?_
      exact hrec_10 hF
def F_X8_turns (N : Nat) (m : Mem) (x1 : Int32) : Option (Int32 × Mem) :=
  calv (F_X8_begins N m) fun m2 =>
  bnd ((160 : Int32) * x1) fun y3 =>
  L_X8_turns_10 N N m2 x1 y3
set_option maxRecDepth 100000 in
set_option maxHeartbeats 4000000 in
theorem tr_X8_turns {N : Nat} {m m' : Mem} {r : Int32} {x1 : Int32} (hF : F_X8_turns N m x1 = some (r, m')) : Tr yX8_turns wsX8_turns 3 70 [q_r 70, q_i x1] m (some r) m' := by
  refine tr_of (bytes := cX8_turns) (maxL := 3) (ret := (some .boolean)) (by decide) rfl (Nat.le_of_ble_eq_true rfl) (fun K hK hR => ?_)
  have hK : KOK K cX8_turns 3 RX8 wsX8_turns 3 0 70 := hK
  show AW K 0 0 [(0, q_r 70), (1, q_i x1)] [] m
  unfold F_X8_turns at hF
  refine aw_aload_n hK 0 rfl dX8_turns_0 ?_
  obtain ⟨m2, h1, hF⟩ := calv_some hF
  refine aw_cv hK 8 (as := []) (tr_X8_begins h1) gX8_turns_X8_begins rfl rfl rfl (by decide) (na := 0) (by decide +kernel) rfl ⟨by decide, by decide⟩ (Nat.zero_le _) (Nat.le_of_ble_eq_true rfl) dX8_turns_1 ?_
  refine aw_sipush hK (160) rfl dX8_turns_4 ?_
  refine aw_iload_n hK 1 rfl dX8_turns_7 ?_
  refine aw_imul hK dX8_turns_8 ?_
  obtain ⟨y3, hy3, hF⟩ := bnd_some hF
  refine aw_nm hy3 ?_
  refine aw_istore_n hK [(2, q_i y3), (0, q_r 70), (1, q_i x1)] (by decide) rfl dX8_turns_9 ?_
  refine aw_sub [1, 2, 0] (lv' := [(0, q_r 70), (1, q_i x1), (2, q_i y3)]) rfl ?_
  exact lp_X8_turns_10 hK hR _ hF
def B_X8_turn_35 (N : Nat) (m : Mem) (s0 : Int32) : Option (Int32 × Mem) :=
  cal (F_X8_isFine N m s0) fun r12 m11 =>
  if r12 = (0 : Int32) then (
    some ((0 : Int32), m11)
  ) else (
    cal (F_X8_keeps N m11) fun r15 m14 =>
    some (r15, m14)
  )
set_option maxRecDepth 100000 in
set_option maxHeartbeats 4000000 in
theorem bk_X8_turn_35 {N : Nat} {K : KT} {m' : Mem} {r : Int32} (hK : KOK K cX8_turn 3 RX8 wsX8_turn 4 0 92) (hR : KRet K (some .int) (some r) m') {m : Mem} {s0 : Int32} (hF : B_X8_turn_35 N m s0 = some (r, m')) : AW K 0 35 [(0, q_r 70)] [q_i s0, q_r 70] m := by
  unfold B_X8_turn_35 at hF
  obtain ⟨r12, m11, h10, hF⟩ := cal_some hF
  refine aw_cv hK 8 (as := [q_i s0]) (tr_X8_isFine h10) gX8_turn_X8_isFine rfl rfl rfl (by decide) (na := 1) (by decide +kernel) rfl ⟨by decide, by decide⟩ (Nat.zero_le _) (Nat.le_of_ble_eq_true rfl) dX8_turn_35 ?_
  refine aw_if_ne hK 43 rfl dX8_turn_38 (fun hc => ?_) (fun hc => ?_)
  · have hF := if_f hF hc
    refine aw_aload_n hK 0 rfl dX8_turn_43 ?_
    obtain ⟨r15, m14, h13, hF⟩ := cal_some hF
    refine aw_cv hK 8 (as := []) (tr_X8_keeps h13) gX8_turn_X8_keeps rfl rfl rfl (by decide) (na := 0) (by decide +kernel) rfl ⟨by decide, by decide⟩ (Nat.zero_le _) (Nat.le_of_ble_eq_true rfl) dX8_turn_44 ?_
    obtain ⟨rfl, rfl⟩ := so_inj hF
    exact aw_iret hK hR rfl dX8_turn_47
  · have hF := if_t hF hc
    refine aw_iconst hK (0) rfl dX8_turn_41 ?_
    obtain ⟨rfl, rfl⟩ := so_inj hF
    exact aw_iret hK hR rfl dX8_turn_42
def B_X8_turn_30 (N : Nat) (m : Mem) : Option (Int32 × Mem) :=
  B_X8_turn_35 N m (2 : Int32)
set_option maxRecDepth 100000 in
set_option maxHeartbeats 4000000 in
theorem bk_X8_turn_30 {N : Nat} {K : KT} {m' : Mem} {r : Int32} (hK : KOK K cX8_turn 3 RX8 wsX8_turn 4 0 92) (hR : KRet K (some .int) (some r) m') {m : Mem} (hF : B_X8_turn_30 N m = some (r, m')) : AW K 0 30 [(0, q_r 70)] [q_r 70] m := by
  unfold B_X8_turn_30 at hF
  refine aw_iconst hK (2) rfl dX8_turn_30 ?_
  refine aw_goto hK 35 rfl dX8_turn_31 ?_
  refine aw_sub [0] (lv' := [(0, q_r 70)]) rfl ?_
  exact bk_X8_turn_35 hK hR hF
def F_X8_turn (N : Nat) (m : Mem) (x1 : Int32) : Option (Int32 × Mem) :=
  cal (F_X8_isMachine N m x1) fun r3 m2 =>
  if r3 = (0 : Int32) then (
    B_X8_turn_35 N m2 (1 : Int32)
  ) else (
    cal (F_X8_isThere N m2) fun r6 m5 =>
    if r6 = (0 : Int32) then (
      B_X8_turn_30 N m5
    ) else (
      cal (F_X8_turns N m5 x1) fun r9 m8 =>
      if r9 = (0 : Int32) then (
        B_X8_turn_30 N m8
      ) else (
        B_X8_turn_35 N m8 (0 : Int32)
      )
    )
  )
set_option maxRecDepth 100000 in
set_option maxHeartbeats 4000000 in
theorem tr_X8_turn {N : Nat} {m m' : Mem} {r : Int32} {x1 : Int32} (hF : F_X8_turn N m x1 = some (r, m')) : Tr yX8_turn wsX8_turn 4 92 [q_r 70, q_i x1] m (some r) m' := by
  refine tr_of (bytes := cX8_turn) (maxL := 3) (ret := (some .int)) (by decide) rfl (Nat.le_of_ble_eq_true rfl) (fun K hK hR => ?_)
  have hK : KOK K cX8_turn 3 RX8 wsX8_turn 4 0 92 := hK
  show AW K 0 0 [(0, q_r 70), (1, q_i x1)] [] m
  unfold F_X8_turn at hF
  refine aw_aload_n hK 0 rfl dX8_turn_0 ?_
  refine aw_iload_n hK 1 rfl dX8_turn_1 ?_
  obtain ⟨r3, m2, h1, hF⟩ := cal_some hF
  refine aw_cv hK 8 (as := [q_i x1]) (tr_X8_isMachine h1) gX8_turn_X8_isMachine rfl rfl rfl (by decide) (na := 1) (by decide +kernel) rfl ⟨by decide, by decide⟩ (Nat.zero_le _) (Nat.le_of_ble_eq_true rfl) dX8_turn_2 ?_
  refine aw_istore_n hK [(2, q_i r3), (0, q_r 70), (1, q_i x1)] (by decide) rfl dX8_turn_5 ?_
  refine aw_aload_n hK 1 rfl dX8_turn_6 ?_
  refine aw_iload_n hK 0 rfl dX8_turn_7 ?_
  refine aw_if_ne hK 15 rfl dX8_turn_8 (fun hc => ?_) (fun hc => ?_)
  · have hF := if_f hF hc
    refine aw_aload_n hK 1 rfl dX8_turn_15 ?_
    obtain ⟨r6, m5, h4, hF⟩ := cal_some hF
    refine aw_cv hK 8 (as := []) (tr_X8_isThere h4) gX8_turn_X8_isThere rfl rfl rfl (by decide) (na := 0) (by decide +kernel) rfl ⟨by decide, by decide⟩ (Nat.zero_le _) (Nat.le_of_ble_eq_true rfl) dX8_turn_16 ?_
    refine aw_if_eq hK 30 rfl dX8_turn_19 (fun hc => ?_) (fun hc => ?_)
    · have hF := if_t hF hc
      refine aw_sub [1] (lv' := [(0, q_r 70)]) rfl ?_
      exact bk_X8_turn_30 hK hR hF
    · have hF := if_f hF hc
      refine aw_aload_n hK 1 rfl dX8_turn_22 ?_
      refine aw_iload_n hK 2 rfl dX8_turn_23 ?_
      obtain ⟨r9, m8, h7, hF⟩ := cal_some hF
      refine aw_cv hK 8 (as := [q_i x1]) (tr_X8_turns h7) gX8_turn_X8_turns rfl rfl rfl (by decide) (na := 1) (by decide +kernel) rfl ⟨by decide, by decide⟩ (Nat.zero_le _) (Nat.le_of_ble_eq_true rfl) dX8_turn_24 ?_
      refine aw_if_ne hK 34 rfl dX8_turn_27 (fun hc => ?_) (fun hc => ?_)
      · have hF := if_f hF hc
        refine aw_iconst hK (0) rfl dX8_turn_34 ?_
        refine aw_sub [1] (lv' := [(0, q_r 70)]) rfl ?_
        exact bk_X8_turn_35 hK hR hF
      · have hF := if_t hF hc
        refine aw_sub [1] (lv' := [(0, q_r 70)]) rfl ?_
        exact bk_X8_turn_30 hK hR hF
  · have hF := if_t hF hc
    refine aw_iconst hK (1) rfl dX8_turn_11 ?_
    refine aw_goto hK 35 rfl dX8_turn_12 ?_
    refine aw_sub [1] (lv' := [(0, q_r 70)]) rfl ?_
    exact bk_X8_turn_35 hK hR hF
def B_X8_composes_417 (N : Nat) (rec_369 : Mem → Int32 → Int32 → Int32 → Int32 → Option (Int32 × Mem)) (m : Mem) (x1 : Int32) (x2 : Int32) (x3 : Int32) (x4 : Int32) (s0 : Int32) (s1 : Int32) : Option (Int32 × Mem) :=
  gd (inb s1 (alen 82)) <|
  gd (isb s0) <|
  bnd (mup m 82 (ix s1) s0) fun m61 =>
  bnd (x4 + (1 : Int32)) fun y62 =>
  rec_369 m61 x1 x2 x3 y62
set_option maxRecDepth 100000 in
set_option maxHeartbeats 4000000 in
theorem bk_X8_composes_417 {N : Nat} {K : KT} {m' : Mem} {rec_369 : Mem → Int32 → Int32 → Int32 → Int32 → Option (Int32 × Mem)} {r : Int32} (hK : KOK K cX8_composes 6 RX8 wsX8_composes 3 0 70) (hR : KRet K (some .boolean) (some r) m') (hrec_369 : ∀ {m : Mem} {x1 : Int32} {x2 : Int32} {x3 : Int32} {x4 : Int32}, rec_369 m x1 x2 x3 x4 = some (r, m') → AW K 0 369 [(0, q_r 70), (1, q_i x1), (2, q_i x2), (3, q_i x3), (4, q_i x4)] [] m) {m : Mem} {x1 : Int32} {x2 : Int32} {x3 : Int32} {x4 : Int32} {s0 : Int32} {s1 : Int32} (hF : B_X8_composes_417 N rec_369 m x1 x2 x3 x4 s0 s1 = some (r, m')) : AW K 0 417 [(0, q_r 70), (1, q_i x1), (2, q_i x2), (3, q_i x3), (4, q_i x4)] [q_i s0, q_i s1, q_r 82] m := by
  unfold B_X8_composes_417 at hF
  obtain ⟨g59, hF⟩ := gd_some hF
  obtain ⟨g60, hF⟩ := gd_some hF
  refine aw_zast hK rfl g59 g60 dX8_composes_417 ?_
  obtain ⟨m61, hm61, hF⟩ := bnd_some hF
  refine aw_mm hm61 ?_
  obtain ⟨y62, hy62, hF⟩ := bnd_some hF
  refine aw_iinc hK (cz := 1) 4 [(4, q_i y62), (0, q_r 70), (1, q_i x1), (2, q_i x2), (3, q_i x3)] (by decide) rfl rfl hy62 rfl dX8_composes_418 ?_
  refine aw_goto hK 369 rfl dX8_composes_421 ?_
  refine aw_sub [1, 2, 3, 4, 0] (lv' := [(0, q_r 70), (1, q_i x1), (2, q_i x2), (3, q_i x3), (4, q_i y62)]) rfl ?_
  exact hrec_369 hF
def B_X8_composes_416 (N : Nat) (rec_369 : Mem → Int32 → Int32 → Int32 → Int32 → Option (Int32 × Mem)) (m : Mem) (x1 : Int32) (x2 : Int32) (x3 : Int32) (x4 : Int32) (s0 : Int32) : Option (Int32 × Mem) :=
  B_X8_composes_417 N rec_369 m x1 x2 x3 x4 (0 : Int32) s0
set_option maxRecDepth 100000 in
set_option maxHeartbeats 4000000 in
theorem bk_X8_composes_416 {N : Nat} {K : KT} {m' : Mem} {rec_369 : Mem → Int32 → Int32 → Int32 → Int32 → Option (Int32 × Mem)} {r : Int32} (hK : KOK K cX8_composes 6 RX8 wsX8_composes 3 0 70) (hR : KRet K (some .boolean) (some r) m') (hrec_369 : ∀ {m : Mem} {x1 : Int32} {x2 : Int32} {x3 : Int32} {x4 : Int32}, rec_369 m x1 x2 x3 x4 = some (r, m') → AW K 0 369 [(0, q_r 70), (1, q_i x1), (2, q_i x2), (3, q_i x3), (4, q_i x4)] [] m) {m : Mem} {x1 : Int32} {x2 : Int32} {x3 : Int32} {x4 : Int32} {s0 : Int32} (hF : B_X8_composes_416 N rec_369 m x1 x2 x3 x4 s0 = some (r, m')) : AW K 0 416 [(0, q_r 70), (1, q_i x1), (2, q_i x2), (3, q_i x3), (4, q_i x4)] [q_i s0, q_r 82] m := by
  unfold B_X8_composes_416 at hF
  refine aw_iconst hK (0) rfl dX8_composes_416 ?_
  refine aw_sub [0, 1, 2, 3, 4] (lv' := [(0, q_r 70), (1, q_i x1), (2, q_i x2), (3, q_i x3), (4, q_i x4)]) rfl ?_
  exact bk_X8_composes_417 hK hR hrec_369 hF
def S_X8_composes_369 (N : Nat) (rec_369 : Mem → Int32 → Int32 → Int32 → Int32 → Option (Int32 × Mem)) (m : Mem) (x1 : Int32) (x2 : Int32) (x3 : Int32) (x4 : Int32) : Option (Int32 × Mem) :=
  gd (inb x1 (alen 72)) <|
  if (x3 * (m 72 (ix x1))) ≤ x4 then (
    cal (F_X8_trims N m (0 : Int32)) fun r49 m48 =>
    gd (isb r49) <|
    some (r49, m48)
  ) else (
    gd (x3 != 0) <|
    cal (F_X8_isEndOf N m x1 (x4 / x3)) fun r54 m53 =>
    if r54 = (0 : Int32) then (
      B_X8_composes_416 N rec_369 m53 x1 x2 x3 x4 x4
    ) else (
      gd (x3 != 0) <|
      cal (F_X8_isEndOf N m53 x2 (q_rem x4 x3)) fun r58 m57 =>
      if r58 = (0 : Int32) then (
        B_X8_composes_416 N rec_369 m57 x1 x2 x3 x4 x4
      ) else (
        B_X8_composes_417 N rec_369 m57 x1 x2 x3 x4 (1 : Int32) x4
      )
    )
  )
def L_X8_composes_369 (N : Nat) : Nat → Mem → Int32 → Int32 → Int32 → Int32 → Option (Int32 × Mem)
  | 0 => fun _ _ _ _ _ => none
  | f + 1 => S_X8_composes_369 N (L_X8_composes_369 N f)
set_option maxRecDepth 100000 in
set_option maxHeartbeats 4000000 in
theorem lp_X8_composes_369 {N : Nat} {K : KT} {m' : Mem} {r : Int32} (hK : KOK K cX8_composes 6 RX8 wsX8_composes 3 0 70) (hR : KRet K (some .boolean) (some r) m') : ∀ (f : Nat) {m : Mem} {x1 : Int32} {x2 : Int32} {x3 : Int32} {x4 : Int32}, L_X8_composes_369 N f m x1 x2 x3 x4 = some (r, m') → AW K 0 369 [(0, q_r 70), (1, q_i x1), (2, q_i x2), (3, q_i x3), (4, q_i x4)] [] m := by
  intro f
  induction f with
  | zero => intro m x1 x2 x3 x4 hF; cases hF
  | succ f hrec_369 =>
    intro m x1 x2 x3 x4 hF
    have hF : S_X8_composes_369 N (L_X8_composes_369 N f) m x1 x2 x3 x4 = some (r, m') := hF
    unfold S_X8_composes_369 at hF
    refine aw_iload hK 4 rfl dX8_composes_369 ?_
    refine aw_iload_n hK 3 rfl dX8_composes_371 ?_
    refine aw_aload_n hK 0 rfl dX8_composes_372 ?_
    refine gf_8_3 hK rfl (72) rfl (List.mem_of_getElem? (i := 1) rfl) dX8_composes_373 ?_
    refine aw_iload_n hK 1 rfl dX8_composes_376 ?_
    obtain ⟨g46, hF⟩ := gd_some hF
    refine aw_iald hK rfl g46 dX8_composes_377 ?_
    refine aw_imul hK dX8_composes_378 ?_
    refine aw_icmp_ge hK 424 rfl dX8_composes_379 (fun hc => ?_) (fun hc => ?_)
    · have hF := if_t hF hc
      refine aw_aload_n hK 0 rfl dX8_composes_424 ?_
      refine aw_iconst hK (0) rfl dX8_composes_425 ?_
      obtain ⟨r49, m48, h47, hF⟩ := cal_some hF
      refine aw_cv hK 8 (as := [q_i (0 : Int32)]) (tr_X8_trims h47) gX8_composes_X8_trims rfl rfl rfl (by decide) (na := 1) (by decide +kernel) rfl ⟨by decide, by decide⟩ (Nat.zero_le _) (Nat.le_of_ble_eq_true rfl) dX8_composes_426 ?_
      obtain ⟨g50, hF⟩ := gd_some hF
      obtain ⟨rfl, rfl⟩ := so_inj hF
      exact aw_iret hK hR (isb_narrow g50) dX8_composes_429
    · have hF := if_f hF hc
      refine aw_aload_n hK 0 rfl dX8_composes_382 ?_
      refine gf_8_15 hK rfl (82) rfl (List.mem_of_getElem? (i := 9) rfl) dX8_composes_383 ?_
      refine aw_iload hK 4 rfl dX8_composes_386 ?_
      refine aw_aload_n hK 0 rfl dX8_composes_388 ?_
      refine aw_iload_n hK 1 rfl dX8_composes_389 ?_
      refine aw_iload hK 4 rfl dX8_composes_390 ?_
      refine aw_iload_n hK 3 rfl dX8_composes_392 ?_
      obtain ⟨g51, hF⟩ := gd_some hF
      refine aw_idiv hK (bne_iff_ne.mp g51) dX8_composes_393 ?_
      obtain ⟨r54, m53, h52, hF⟩ := cal_some hF
      refine aw_cv hK 8 (as := [q_i x1, q_i (x4 / x3)]) (tr_X8_isEndOf h52) gX8_composes_X8_isEndOf rfl rfl rfl (by decide) (na := 2) (by decide +kernel) rfl ⟨by decide, by decide⟩ (Nat.zero_le _) (Nat.le_of_ble_eq_true rfl) dX8_composes_394 ?_
      refine aw_if_eq hK 416 rfl dX8_composes_397 (fun hc => ?_) (fun hc => ?_)
      · have hF := if_t hF hc
        refine aw_sub [0, 1, 2, 3, 4] (lv' := [(0, q_r 70), (1, q_i x1), (2, q_i x2), (3, q_i x3), (4, q_i x4)]) rfl ?_
        exact bk_X8_composes_416 hK hR hrec_369 hF
      · have hF := if_f hF hc
        refine aw_aload_n hK 0 rfl dX8_composes_400 ?_
        refine aw_iload_n hK 2 rfl dX8_composes_401 ?_
        refine aw_iload hK 4 rfl dX8_composes_402 ?_
        refine aw_iload_n hK 3 rfl dX8_composes_404 ?_
        obtain ⟨g55, hF⟩ := gd_some hF
        refine aw_irem hK (bne_iff_ne.mp g55) dX8_composes_405 ?_
        obtain ⟨r58, m57, h56, hF⟩ := cal_some hF
        refine aw_cv hK 8 (as := [q_i x2, q_i (q_rem x4 x3)]) (tr_X8_isEndOf h56) gX8_composes_X8_isEndOf rfl rfl rfl (by decide) (na := 2) (by decide +kernel) rfl ⟨by decide, by decide⟩ (Nat.zero_le _) (Nat.le_of_ble_eq_true rfl) dX8_composes_406 ?_
        refine aw_if_eq hK 416 rfl dX8_composes_409 (fun hc => ?_) (fun hc => ?_)
        · have hF := if_t hF hc
          refine aw_sub [0, 1, 2, 3, 4] (lv' := [(0, q_r 70), (1, q_i x1), (2, q_i x2), (3, q_i x3), (4, q_i x4)]) rfl ?_
          exact bk_X8_composes_416 hK hR hrec_369 hF
        · have hF := if_f hF hc
          refine aw_iconst hK (1) rfl dX8_composes_412 ?_
          refine aw_goto hK 417 rfl dX8_composes_413 ?_
          refine aw_sub [0, 1, 2, 3, 4] (lv' := [(0, q_r 70), (1, q_i x1), (2, q_i x2), (3, q_i x3), (4, q_i x4)]) rfl ?_
          exact bk_X8_composes_417 hK hR hrec_369 hF
def B_X8_composes_360 (N : Nat) (rec_267 : Mem → Int32 → Int32 → Int32 → Int32 → Option (Int32 × Mem)) (m : Mem) (x1 : Int32) (x2 : Int32) (x3 : Int32) (x4 : Int32) : Option (Int32 × Mem) :=
  bnd (x4 + (1 : Int32)) fun y45 =>
  rec_267 m x1 x2 x3 y45
set_option maxRecDepth 100000 in
set_option maxHeartbeats 4000000 in
theorem bk_X8_composes_360 {N : Nat} {K : KT} {m' : Mem} {rec_267 : Mem → Int32 → Int32 → Int32 → Int32 → Option (Int32 × Mem)} {r : Int32} (hK : KOK K cX8_composes 6 RX8 wsX8_composes 3 0 70) (hR : KRet K (some .boolean) (some r) m') (hrec_267 : ∀ {m : Mem} {x1 : Int32} {x2 : Int32} {x3 : Int32} {x4 : Int32}, rec_267 m x1 x2 x3 x4 = some (r, m') → AW K 0 267 [(0, q_r 70), (1, q_i x1), (2, q_i x2), (3, q_i x3), (4, q_i x4)] [] m) {m : Mem} {x1 : Int32} {x2 : Int32} {x3 : Int32} {x4 : Int32} (hF : B_X8_composes_360 N rec_267 m x1 x2 x3 x4 = some (r, m')) : AW K 0 360 [(0, q_r 70), (1, q_i x1), (2, q_i x2), (3, q_i x3), (4, q_i x4)] [] m := by
  unfold B_X8_composes_360 at hF
  obtain ⟨y45, hy45, hF⟩ := bnd_some hF
  refine aw_iinc hK (cz := 1) 4 [(4, q_i y45), (0, q_r 70), (1, q_i x1), (2, q_i x2), (3, q_i x3)] (by decide) rfl rfl hy45 rfl dX8_composes_360 ?_
  refine aw_goto hK 267 rfl dX8_composes_363 ?_
  refine aw_sub [1, 2, 3, 4, 0] (lv' := [(0, q_r 70), (1, q_i x1), (2, q_i x2), (3, q_i x3), (4, q_i y45)]) rfl ?_
  exact hrec_267 hF
def S_X8_composes_287 (N : Nat) (rec_267 : Mem → Int32 → Int32 → Int32 → Int32 → Option (Int32 × Mem)) (rec_287 : Mem → Int32 → Int32 → Int32 → Int32 → Int32 → Option (Int32 × Mem)) (m : Mem) (x1 : Int32) (x2 : Int32) (x3 : Int32) (x4 : Int32) (x5 : Int32) : Option (Int32 × Mem) :=
  gd (inb x1 (alen 72)) <|
  if (m 72 (ix x1)) ≤ x5 then (
    B_X8_composes_360 N rec_267 m x1 x2 x3 x4
  ) else (
    gd (inb x4 (alen 76)) <|
    if (m 76 (ix x4)) = (8 : Int32) then (
      gd (inb x4 (alen 75)) <|
      gd (inb x4 (alen 77)) <|
      gd (inb x4 (alen 78)) <|
      gd (inb x4 (alen 79)) <|
      calv (F_X8_adds N m ((x3 * x5) + (m 75 (ix x4))) (8 : Int32) (m 77 (ix x4)) (m 78 (ix x4)) ((x3 * x5) + (m 79 (ix x4)))) fun m43 =>
      bnd (x5 + (1 : Int32)) fun y44 =>
      rec_287 m43 x1 x2 x3 x4 y44
    ) else (
      B_X8_composes_360 N rec_267 m x1 x2 x3 x4
    )
  )
def L_X8_composes_287 (N : Nat) (rec_267 : Mem → Int32 → Int32 → Int32 → Int32 → Option (Int32 × Mem)) : Nat → Mem → Int32 → Int32 → Int32 → Int32 → Int32 → Option (Int32 × Mem)
  | 0 => fun _ _ _ _ _ _ => none
  | f + 1 => S_X8_composes_287 N rec_267 (L_X8_composes_287 N rec_267 f)
set_option maxRecDepth 100000 in
set_option maxHeartbeats 4000000 in
theorem lp_X8_composes_287 {N : Nat} {K : KT} {m' : Mem} {rec_267 : Mem → Int32 → Int32 → Int32 → Int32 → Option (Int32 × Mem)} {r : Int32} (hK : KOK K cX8_composes 6 RX8 wsX8_composes 3 0 70) (hR : KRet K (some .boolean) (some r) m') (hrec_267 : ∀ {m : Mem} {x1 : Int32} {x2 : Int32} {x3 : Int32} {x4 : Int32}, rec_267 m x1 x2 x3 x4 = some (r, m') → AW K 0 267 [(0, q_r 70), (1, q_i x1), (2, q_i x2), (3, q_i x3), (4, q_i x4)] [] m) : ∀ (f : Nat) {m : Mem} {x1 : Int32} {x2 : Int32} {x3 : Int32} {x4 : Int32} {x5 : Int32}, L_X8_composes_287 N rec_267 f m x1 x2 x3 x4 x5 = some (r, m') → AW K 0 287 [(0, q_r 70), (1, q_i x1), (2, q_i x2), (3, q_i x3), (4, q_i x4), (5, q_i x5)] [] m := by
  intro f
  induction f with
  | zero => intro m x1 x2 x3 x4 x5 hF; cases hF
  | succ f hrec_287 =>
    intro m x1 x2 x3 x4 x5 hF
    have hF : S_X8_composes_287 N rec_267 (L_X8_composes_287 N rec_267 f) m x1 x2 x3 x4 x5 = some (r, m') := hF
    unfold S_X8_composes_287 at hF
    refine aw_iload hK 5 rfl dX8_composes_287 ?_
    refine aw_aload_n hK 0 rfl dX8_composes_289 ?_
    refine gf_8_3 hK rfl (72) rfl (List.mem_of_getElem? (i := 1) rfl) dX8_composes_290 ?_
    refine aw_iload_n hK 1 rfl dX8_composes_293 ?_
    obtain ⟨g36, hF⟩ := gd_some hF
    refine aw_iald hK rfl g36 dX8_composes_294 ?_
    refine aw_icmp_ge hK 360 rfl dX8_composes_295 (fun hc => ?_) (fun hc => ?_)
    · have hF := if_t hF hc
      refine aw_sub [0, 1, 2, 3, 4] (lv' := [(0, q_r 70), (1, q_i x1), (2, q_i x2), (3, q_i x3), (4, q_i x4)]) rfl ?_
      exact bk_X8_composes_360 hK hR hrec_267 hF
    · have hF := if_f hF hc
      refine aw_aload_n hK 0 rfl dX8_composes_298 ?_
      refine gf_8_7 hK rfl (76) rfl (List.mem_of_getElem? (i := 4) rfl) dX8_composes_299 ?_
      refine aw_iload hK 4 rfl dX8_composes_302 ?_
      obtain ⟨g37, hF⟩ := gd_some hF
      refine aw_iald hK rfl g37 dX8_composes_304 ?_
      refine aw_bipush hK (8) rfl dX8_composes_305 ?_
      refine aw_icmp_ne hK 360 rfl dX8_composes_307 (fun hc => ?_) (fun hc => ?_)
      · have hF := if_f hF hc
        refine aw_sub [0, 1, 2, 3, 4] (lv' := [(0, q_r 70), (1, q_i x1), (2, q_i x2), (3, q_i x3), (4, q_i x4)]) rfl ?_
        exact bk_X8_composes_360 hK hR hrec_267 hF
      · have hF := if_t hF hc
        refine aw_aload_n hK 0 rfl dX8_composes_310 ?_
        refine aw_iload_n hK 3 rfl dX8_composes_311 ?_
        refine aw_iload hK 5 rfl dX8_composes_312 ?_
        refine aw_imul hK dX8_composes_314 ?_
        refine aw_aload_n hK 0 rfl dX8_composes_315 ?_
        refine gf_8_6 hK rfl (75) rfl (List.mem_of_getElem? (i := 7) rfl) dX8_composes_316 ?_
        refine aw_iload hK 4 rfl dX8_composes_319 ?_
        obtain ⟨g38, hF⟩ := gd_some hF
        refine aw_iald hK rfl g38 dX8_composes_321 ?_
        refine aw_iadd hK dX8_composes_322 ?_
        refine aw_bipush hK (8) rfl dX8_composes_323 ?_
        refine aw_aload_n hK 0 rfl dX8_composes_325 ?_
        refine gf_8_8 hK rfl (77) rfl (List.mem_of_getElem? (i := 3) rfl) dX8_composes_326 ?_
        refine aw_iload hK 4 rfl dX8_composes_329 ?_
        obtain ⟨g39, hF⟩ := gd_some hF
        refine aw_iald hK rfl g39 dX8_composes_331 ?_
        refine aw_aload_n hK 0 rfl dX8_composes_332 ?_
        refine gf_8_9 hK rfl (78) rfl (List.mem_of_getElem? (i := 5) rfl) dX8_composes_333 ?_
        refine aw_iload hK 4 rfl dX8_composes_336 ?_
        obtain ⟨g40, hF⟩ := gd_some hF
        refine aw_iald hK rfl g40 dX8_composes_338 ?_
        refine aw_iload_n hK 3 rfl dX8_composes_339 ?_
        refine aw_iload hK 5 rfl dX8_composes_340 ?_
        refine aw_imul hK dX8_composes_342 ?_
        refine aw_aload_n hK 0 rfl dX8_composes_343 ?_
        refine gf_8_10 hK rfl (79) rfl (List.mem_of_getElem? (i := 8) rfl) dX8_composes_344 ?_
        refine aw_iload hK 4 rfl dX8_composes_347 ?_
        obtain ⟨g41, hF⟩ := gd_some hF
        refine aw_iald hK rfl g41 dX8_composes_349 ?_
        refine aw_iadd hK dX8_composes_350 ?_
        obtain ⟨m43, h42, hF⟩ := calv_some hF
        refine aw_cv hK 8 (as := [q_i ((x3 * x5) + (m 75 (ix x4))), q_i (8 : Int32), q_i (m 77 (ix x4)), q_i (m 78 (ix x4)), q_i ((x3 * x5) + (m 79 (ix x4)))]) (tr_X8_adds h42) gX8_composes_X8_adds rfl rfl rfl (by decide) (na := 5) (by decide +kernel) rfl ⟨by decide, by decide⟩ (Nat.zero_le _) (Nat.le_of_ble_eq_true rfl) dX8_composes_351 ?_
        obtain ⟨y44, hy44, hF⟩ := bnd_some hF
        refine aw_iinc hK (cz := 1) 5 [(5, q_i y44), (0, q_r 70), (1, q_i x1), (2, q_i x2), (3, q_i x3), (4, q_i x4)] (by decide) rfl rfl hy44 rfl dX8_composes_354 ?_
        refine aw_goto hK 287 rfl dX8_composes_357 ?_
        refine aw_sub [1, 2, 3, 4, 5, 0] (lv' := [(0, q_r 70), (1, q_i x1), (2, q_i x2), (3, q_i x3), (4, q_i x4), (5, q_i y44)]) rfl ?_
        exact hrec_287 hF
def S_X8_composes_267 (N : Nat) (rec_267 : Mem → Int32 → Int32 → Int32 → Int32 → Option (Int32 × Mem)) (m : Mem) (x1 : Int32) (x2 : Int32) (x3 : Int32) (x4 : Int32) : Option (Int32 × Mem) :=
  gd (inb x2 (alen 74)) <|
  if (((160 : Int32) * x2) + (m 74 (ix x2))) ≤ x4 then (
    L_X8_composes_369 N N m x1 x2 x3 (0 : Int32)
  ) else (
    L_X8_composes_287 N rec_267 N m x1 x2 x3 x4 (0 : Int32)
  )
def L_X8_composes_267 (N : Nat) : Nat → Mem → Int32 → Int32 → Int32 → Int32 → Option (Int32 × Mem)
  | 0 => fun _ _ _ _ _ => none
  | f + 1 => S_X8_composes_267 N (L_X8_composes_267 N f)
set_option maxRecDepth 100000 in
set_option maxHeartbeats 4000000 in
theorem lp_X8_composes_267 {N : Nat} {K : KT} {m' : Mem} {r : Int32} (hK : KOK K cX8_composes 6 RX8 wsX8_composes 3 0 70) (hR : KRet K (some .boolean) (some r) m') : ∀ (f : Nat) {m : Mem} {x1 : Int32} {x2 : Int32} {x3 : Int32} {x4 : Int32}, L_X8_composes_267 N f m x1 x2 x3 x4 = some (r, m') → AW K 0 267 [(0, q_r 70), (1, q_i x1), (2, q_i x2), (3, q_i x3), (4, q_i x4)] [] m := by
  intro f
  induction f with
  | zero => intro m x1 x2 x3 x4 hF; cases hF
  | succ f hrec_267 =>
    intro m x1 x2 x3 x4 hF
    have hF : S_X8_composes_267 N (L_X8_composes_267 N f) m x1 x2 x3 x4 = some (r, m') := hF
    unfold S_X8_composes_267 at hF
    refine aw_iload hK 4 rfl dX8_composes_267 ?_
    refine aw_sipush hK (160) rfl dX8_composes_269 ?_
    refine aw_iload_n hK 2 rfl dX8_composes_272 ?_
    refine aw_imul hK dX8_composes_273 ?_
    refine aw_aload_n hK 0 rfl dX8_composes_274 ?_
    refine gf_8_5 hK rfl (74) rfl (List.mem_of_getElem? (i := 2) rfl) dX8_composes_275 ?_
    refine aw_iload_n hK 2 rfl dX8_composes_278 ?_
    obtain ⟨g35, hF⟩ := gd_some hF
    refine aw_iald hK rfl g35 dX8_composes_279 ?_
    refine aw_iadd hK dX8_composes_280 ?_
    refine aw_icmp_ge hK 366 rfl dX8_composes_281 (fun hc => ?_) (fun hc => ?_)
    · have hF := if_t hF hc
      refine aw_iconst hK (0) rfl dX8_composes_366 ?_
      refine aw_istore hK [(4, q_i (0 : Int32)), (0, q_r 70), (1, q_i x1), (2, q_i x2), (3, q_i x3)] (by decide) rfl dX8_composes_367 ?_
      refine aw_sub [1, 2, 3, 4, 0] (lv' := [(0, q_r 70), (1, q_i x1), (2, q_i x2), (3, q_i x3), (4, q_i (0 : Int32))]) rfl ?_
      exact lp_X8_composes_369 hK hR _ hF
    · have hF := if_f hF hc
      refine aw_iconst hK (0) rfl dX8_composes_284 ?_
      refine aw_istore hK [(5, q_i (0 : Int32)), (0, q_r 70), (1, q_i x1), (2, q_i x2), (3, q_i x3), (4, q_i x4)] (by decide) rfl dX8_composes_285 ?_
      refine aw_sub [1, 2, 3, 4, 5, 0] (lv' := [(0, q_r 70), (1, q_i x1), (2, q_i x2), (3, q_i x3), (4, q_i x4), (5, q_i (0 : Int32))]) rfl ?_
      exact lp_X8_composes_287 hK hR hrec_267 _ hF
def B_X8_composes_254 (N : Nat) (rec_18 : Mem → Int32 → Int32 → Int32 → Int32 → Option (Int32 × Mem)) (m : Mem) (x1 : Int32) (x2 : Int32) (x3 : Int32) (x4 : Int32) : Option (Int32 × Mem) :=
  bnd (x4 + (1 : Int32)) fun y34 =>
  rec_18 m x1 x2 x3 y34
set_option maxRecDepth 100000 in
set_option maxHeartbeats 4000000 in
theorem bk_X8_composes_254 {N : Nat} {K : KT} {m' : Mem} {rec_18 : Mem → Int32 → Int32 → Int32 → Int32 → Option (Int32 × Mem)} {r : Int32} (hK : KOK K cX8_composes 6 RX8 wsX8_composes 3 0 70) (hR : KRet K (some .boolean) (some r) m') (hrec_18 : ∀ {m : Mem} {x1 : Int32} {x2 : Int32} {x3 : Int32} {x4 : Int32}, rec_18 m x1 x2 x3 x4 = some (r, m') → AW K 0 18 [(0, q_r 70), (1, q_i x1), (2, q_i x2), (3, q_i x3), (4, q_i x4)] [] m) {m : Mem} {x1 : Int32} {x2 : Int32} {x3 : Int32} {x4 : Int32} (hF : B_X8_composes_254 N rec_18 m x1 x2 x3 x4 = some (r, m')) : AW K 0 254 [(0, q_r 70), (1, q_i x1), (2, q_i x2), (3, q_i x3), (4, q_i x4)] [] m := by
  unfold B_X8_composes_254 at hF
  obtain ⟨y34, hy34, hF⟩ := bnd_some hF
  refine aw_iinc hK (cz := 1) 4 [(4, q_i y34), (0, q_r 70), (1, q_i x1), (2, q_i x2), (3, q_i x3)] (by decide) rfl rfl hy34 rfl dX8_composes_254 ?_
  refine aw_goto hK 18 rfl dX8_composes_257 ?_
  refine aw_sub [1, 2, 3, 4, 0] (lv' := [(0, q_r 70), (1, q_i x1), (2, q_i x2), (3, q_i x3), (4, q_i y34)]) rfl ?_
  exact hrec_18 hF
def S_X8_composes_186 (N : Nat) (rec_18 : Mem → Int32 → Int32 → Int32 → Int32 → Option (Int32 × Mem)) (rec_186 : Mem → Int32 → Int32 → Int32 → Int32 → Int32 → Option (Int32 × Mem)) (m : Mem) (x1 : Int32) (x2 : Int32) (x3 : Int32) (x4 : Int32) (x5 : Int32) : Option (Int32 × Mem) :=
  if x3 ≤ x5 then (
    B_X8_composes_254 N rec_18 m x1 x2 x3 x4
  ) else (
    gd (inb x4 (alen 77)) <|
    if (m 77 (ix x4)) = (8 : Int32) then (
      gd (inb x4 (alen 75)) <|
      gd (inb x4 (alen 76)) <|
      gd (inb x4 (alen 78)) <|
      gd (inb x4 (alen 79)) <|
      calv (F_X8_adds N m ((x3 * (m 75 (ix x4))) + x5) (m 76 (ix x4)) (8 : Int32) (m 78 (ix x4)) ((x3 * (m 79 (ix x4))) + x5)) fun m32 =>
      bnd (x5 + (1 : Int32)) fun y33 =>
      rec_186 m32 x1 x2 x3 x4 y33
    ) else (
      B_X8_composes_254 N rec_18 m x1 x2 x3 x4
    )
  )
def L_X8_composes_186 (N : Nat) (rec_18 : Mem → Int32 → Int32 → Int32 → Int32 → Option (Int32 × Mem)) : Nat → Mem → Int32 → Int32 → Int32 → Int32 → Int32 → Option (Int32 × Mem)
  | 0 => fun _ _ _ _ _ _ => none
  | f + 1 => S_X8_composes_186 N rec_18 (L_X8_composes_186 N rec_18 f)
set_option maxRecDepth 100000 in
set_option maxHeartbeats 4000000 in
theorem lp_X8_composes_186 {N : Nat} {K : KT} {m' : Mem} {rec_18 : Mem → Int32 → Int32 → Int32 → Int32 → Option (Int32 × Mem)} {r : Int32} (hK : KOK K cX8_composes 6 RX8 wsX8_composes 3 0 70) (hR : KRet K (some .boolean) (some r) m') (hrec_18 : ∀ {m : Mem} {x1 : Int32} {x2 : Int32} {x3 : Int32} {x4 : Int32}, rec_18 m x1 x2 x3 x4 = some (r, m') → AW K 0 18 [(0, q_r 70), (1, q_i x1), (2, q_i x2), (3, q_i x3), (4, q_i x4)] [] m) : ∀ (f : Nat) {m : Mem} {x1 : Int32} {x2 : Int32} {x3 : Int32} {x4 : Int32} {x5 : Int32}, L_X8_composes_186 N rec_18 f m x1 x2 x3 x4 x5 = some (r, m') → AW K 0 186 [(0, q_r 70), (1, q_i x1), (2, q_i x2), (3, q_i x3), (4, q_i x4), (5, q_i x5)] [] m := by
  intro f
  induction f with
  | zero => intro m x1 x2 x3 x4 x5 hF; cases hF
  | succ f hrec_186 =>
    intro m x1 x2 x3 x4 x5 hF
    have hF : S_X8_composes_186 N rec_18 (L_X8_composes_186 N rec_18 f) m x1 x2 x3 x4 x5 = some (r, m') := hF
    unfold S_X8_composes_186 at hF
    refine aw_iload hK 5 rfl dX8_composes_186 ?_
    refine aw_iload_n hK 3 rfl dX8_composes_188 ?_
    refine aw_icmp_ge hK 254 rfl dX8_composes_189 (fun hc => ?_) (fun hc => ?_)
    · have hF := if_t hF hc
      refine aw_sub [0, 1, 2, 3, 4] (lv' := [(0, q_r 70), (1, q_i x1), (2, q_i x2), (3, q_i x3), (4, q_i x4)]) rfl ?_
      exact bk_X8_composes_254 hK hR hrec_18 hF
    · have hF := if_f hF hc
      refine aw_aload_n hK 0 rfl dX8_composes_192 ?_
      refine gf_8_8 hK rfl (77) rfl (List.mem_of_getElem? (i := 3) rfl) dX8_composes_193 ?_
      refine aw_iload hK 4 rfl dX8_composes_196 ?_
      obtain ⟨g26, hF⟩ := gd_some hF
      refine aw_iald hK rfl g26 dX8_composes_198 ?_
      refine aw_bipush hK (8) rfl dX8_composes_199 ?_
      refine aw_icmp_ne hK 254 rfl dX8_composes_201 (fun hc => ?_) (fun hc => ?_)
      · have hF := if_f hF hc
        refine aw_sub [0, 1, 2, 3, 4] (lv' := [(0, q_r 70), (1, q_i x1), (2, q_i x2), (3, q_i x3), (4, q_i x4)]) rfl ?_
        exact bk_X8_composes_254 hK hR hrec_18 hF
      · have hF := if_t hF hc
        refine aw_aload_n hK 0 rfl dX8_composes_204 ?_
        refine aw_iload_n hK 3 rfl dX8_composes_205 ?_
        refine aw_aload_n hK 0 rfl dX8_composes_206 ?_
        refine gf_8_6 hK rfl (75) rfl (List.mem_of_getElem? (i := 7) rfl) dX8_composes_207 ?_
        refine aw_iload hK 4 rfl dX8_composes_210 ?_
        obtain ⟨g27, hF⟩ := gd_some hF
        refine aw_iald hK rfl g27 dX8_composes_212 ?_
        refine aw_imul hK dX8_composes_213 ?_
        refine aw_iload hK 5 rfl dX8_composes_214 ?_
        refine aw_iadd hK dX8_composes_216 ?_
        refine aw_aload_n hK 0 rfl dX8_composes_217 ?_
        refine gf_8_7 hK rfl (76) rfl (List.mem_of_getElem? (i := 4) rfl) dX8_composes_218 ?_
        refine aw_iload hK 4 rfl dX8_composes_221 ?_
        obtain ⟨g28, hF⟩ := gd_some hF
        refine aw_iald hK rfl g28 dX8_composes_223 ?_
        refine aw_bipush hK (8) rfl dX8_composes_224 ?_
        refine aw_aload_n hK 0 rfl dX8_composes_226 ?_
        refine gf_8_9 hK rfl (78) rfl (List.mem_of_getElem? (i := 5) rfl) dX8_composes_227 ?_
        refine aw_iload hK 4 rfl dX8_composes_230 ?_
        obtain ⟨g29, hF⟩ := gd_some hF
        refine aw_iald hK rfl g29 dX8_composes_232 ?_
        refine aw_iload_n hK 3 rfl dX8_composes_233 ?_
        refine aw_aload_n hK 0 rfl dX8_composes_234 ?_
        refine gf_8_10 hK rfl (79) rfl (List.mem_of_getElem? (i := 8) rfl) dX8_composes_235 ?_
        refine aw_iload hK 4 rfl dX8_composes_238 ?_
        obtain ⟨g30, hF⟩ := gd_some hF
        refine aw_iald hK rfl g30 dX8_composes_240 ?_
        refine aw_imul hK dX8_composes_241 ?_
        refine aw_iload hK 5 rfl dX8_composes_242 ?_
        refine aw_iadd hK dX8_composes_244 ?_
        obtain ⟨m32, h31, hF⟩ := calv_some hF
        refine aw_cv hK 8 (as := [q_i ((x3 * (m 75 (ix x4))) + x5), q_i (m 76 (ix x4)), q_i (8 : Int32), q_i (m 78 (ix x4)), q_i ((x3 * (m 79 (ix x4))) + x5)]) (tr_X8_adds h31) gX8_composes_X8_adds rfl rfl rfl (by decide) (na := 5) (by decide +kernel) rfl ⟨by decide, by decide⟩ (Nat.zero_le _) (Nat.le_of_ble_eq_true rfl) dX8_composes_245 ?_
        obtain ⟨y33, hy33, hF⟩ := bnd_some hF
        refine aw_iinc hK (cz := 1) 5 [(5, q_i y33), (0, q_r 70), (1, q_i x1), (2, q_i x2), (3, q_i x3), (4, q_i x4)] (by decide) rfl rfl hy33 rfl dX8_composes_248 ?_
        refine aw_goto hK 186 rfl dX8_composes_251 ?_
        refine aw_sub [1, 2, 3, 4, 5, 0] (lv' := [(0, q_r 70), (1, q_i x1), (2, q_i x2), (3, q_i x3), (4, q_i x4), (5, q_i y33)]) rfl ?_
        exact hrec_186 hF
def B_X8_composes_177 (N : Nat) (rec_18 : Mem → Int32 → Int32 → Int32 → Int32 → Option (Int32 × Mem)) (rec_42 : Mem → Int32 → Int32 → Int32 → Int32 → Int32 → Option (Int32 × Mem)) (m : Mem) (x1 : Int32) (x2 : Int32) (x3 : Int32) (x4 : Int32) (x5 : Int32) : Option (Int32 × Mem) :=
  bnd (x5 + (1 : Int32)) fun y25 =>
  rec_42 m x1 x2 x3 x4 y25
set_option maxRecDepth 100000 in
set_option maxHeartbeats 4000000 in
theorem bk_X8_composes_177 {N : Nat} {K : KT} {m' : Mem} {rec_18 : Mem → Int32 → Int32 → Int32 → Int32 → Option (Int32 × Mem)} {rec_42 : Mem → Int32 → Int32 → Int32 → Int32 → Int32 → Option (Int32 × Mem)} {r : Int32} (hK : KOK K cX8_composes 6 RX8 wsX8_composes 3 0 70) (hR : KRet K (some .boolean) (some r) m') (hrec_18 : ∀ {m : Mem} {x1 : Int32} {x2 : Int32} {x3 : Int32} {x4 : Int32}, rec_18 m x1 x2 x3 x4 = some (r, m') → AW K 0 18 [(0, q_r 70), (1, q_i x1), (2, q_i x2), (3, q_i x3), (4, q_i x4)] [] m) (hrec_42 : ∀ {m : Mem} {x1 : Int32} {x2 : Int32} {x3 : Int32} {x4 : Int32} {x5 : Int32}, rec_42 m x1 x2 x3 x4 x5 = some (r, m') → AW K 0 42 [(0, q_r 70), (1, q_i x1), (2, q_i x2), (3, q_i x3), (4, q_i x4), (5, q_i x5)] [] m) {m : Mem} {x1 : Int32} {x2 : Int32} {x3 : Int32} {x4 : Int32} {x5 : Int32} (hF : B_X8_composes_177 N rec_18 rec_42 m x1 x2 x3 x4 x5 = some (r, m')) : AW K 0 177 [(0, q_r 70), (1, q_i x1), (2, q_i x2), (3, q_i x3), (4, q_i x4), (5, q_i x5)] [] m := by
  unfold B_X8_composes_177 at hF
  obtain ⟨y25, hy25, hF⟩ := bnd_some hF
  refine aw_iinc hK (cz := 1) 5 [(5, q_i y25), (0, q_r 70), (1, q_i x1), (2, q_i x2), (3, q_i x3), (4, q_i x4)] (by decide) rfl rfl hy25 rfl dX8_composes_177 ?_
  refine aw_goto hK 42 rfl dX8_composes_180 ?_
  refine aw_sub [1, 2, 3, 4, 5, 0] (lv' := [(0, q_r 70), (1, q_i x1), (2, q_i x2), (3, q_i x3), (4, q_i x4), (5, q_i y25)]) rfl ?_
  exact hrec_42 hF
def S_X8_composes_42 (N : Nat) (rec_18 : Mem → Int32 → Int32 → Int32 → Int32 → Option (Int32 × Mem)) (rec_42 : Mem → Int32 → Int32 → Int32 → Int32 → Int32 → Option (Int32 × Mem)) (m : Mem) (x1 : Int32) (x2 : Int32) (x3 : Int32) (x4 : Int32) (x5 : Int32) : Option (Int32 × Mem) :=
  gd (inb x2 (alen 74)) <|
  if (((160 : Int32) * x2) + (m 74 (ix x2))) ≤ x5 then (
    L_X8_composes_186 N rec_18 N m x1 x2 x3 x4 (0 : Int32)
  ) else (
    gd (inb x4 (alen 77)) <|
    if (m 77 (ix x4)) = (8 : Int32) then (
      B_X8_composes_177 N rec_18 rec_42 m x1 x2 x3 x4 x5
    ) else (
      gd (inb x4 (alen 77)) <|
      gd (inb x5 (alen 76)) <|
      if (m 77 (ix x4)) = (m 76 (ix x5)) then (
        gd (inb x4 (alen 78)) <|
        gd (inb x5 (alen 78)) <|
        if ((m 78 (ix x4)) + (m 78 (ix x5))) ≤ (1000000 : Int32) then (
          gd (inb x4 (alen 75)) <|
          gd (inb x5 (alen 75)) <|
          gd (inb x4 (alen 76)) <|
          gd (inb x5 (alen 77)) <|
          gd (inb x4 (alen 78)) <|
          gd (inb x5 (alen 78)) <|
          gd (inb x4 (alen 79)) <|
          gd (inb x5 (alen 79)) <|
          calv (F_X8_adds N m ((x3 * (m 75 (ix x4))) + (m 75 (ix x5))) (m 76 (ix x4)) (m 77 (ix x5)) ((m 78 (ix x4)) + (m 78 (ix x5))) ((x3 * (m 79 (ix x4))) + (m 79 (ix x5)))) fun m24 =>
          B_X8_composes_177 N rec_18 rec_42 m24 x1 x2 x3 x4 x5
        ) else (
          some ((0 : Int32), m)
        )
      ) else (
        B_X8_composes_177 N rec_18 rec_42 m x1 x2 x3 x4 x5
      )
    )
  )
def L_X8_composes_42 (N : Nat) (rec_18 : Mem → Int32 → Int32 → Int32 → Int32 → Option (Int32 × Mem)) : Nat → Mem → Int32 → Int32 → Int32 → Int32 → Int32 → Option (Int32 × Mem)
  | 0 => fun _ _ _ _ _ _ => none
  | f + 1 => S_X8_composes_42 N rec_18 (L_X8_composes_42 N rec_18 f)
set_option maxRecDepth 100000 in
set_option maxHeartbeats 4000000 in
theorem lp_X8_composes_42 {N : Nat} {K : KT} {m' : Mem} {rec_18 : Mem → Int32 → Int32 → Int32 → Int32 → Option (Int32 × Mem)} {r : Int32} (hK : KOK K cX8_composes 6 RX8 wsX8_composes 3 0 70) (hR : KRet K (some .boolean) (some r) m') (hrec_18 : ∀ {m : Mem} {x1 : Int32} {x2 : Int32} {x3 : Int32} {x4 : Int32}, rec_18 m x1 x2 x3 x4 = some (r, m') → AW K 0 18 [(0, q_r 70), (1, q_i x1), (2, q_i x2), (3, q_i x3), (4, q_i x4)] [] m) : ∀ (f : Nat) {m : Mem} {x1 : Int32} {x2 : Int32} {x3 : Int32} {x4 : Int32} {x5 : Int32}, L_X8_composes_42 N rec_18 f m x1 x2 x3 x4 x5 = some (r, m') → AW K 0 42 [(0, q_r 70), (1, q_i x1), (2, q_i x2), (3, q_i x3), (4, q_i x4), (5, q_i x5)] [] m := by
  intro f
  induction f with
  | zero => intro m x1 x2 x3 x4 x5 hF; cases hF
  | succ f hrec_42 =>
    intro m x1 x2 x3 x4 x5 hF
    have hF : S_X8_composes_42 N rec_18 (L_X8_composes_42 N rec_18 f) m x1 x2 x3 x4 x5 = some (r, m') := hF
    unfold S_X8_composes_42 at hF
    refine aw_iload hK 5 rfl dX8_composes_42 ?_
    refine aw_sipush hK (160) rfl dX8_composes_44 ?_
    refine aw_iload_n hK 2 rfl dX8_composes_47 ?_
    refine aw_imul hK dX8_composes_48 ?_
    refine aw_aload_n hK 0 rfl dX8_composes_49 ?_
    refine gf_8_5 hK rfl (74) rfl (List.mem_of_getElem? (i := 2) rfl) dX8_composes_50 ?_
    refine aw_iload_n hK 2 rfl dX8_composes_53 ?_
    obtain ⟨g9, hF⟩ := gd_some hF
    refine aw_iald hK rfl g9 dX8_composes_54 ?_
    refine aw_iadd hK dX8_composes_55 ?_
    refine aw_icmp_ge hK 183 rfl dX8_composes_56 (fun hc => ?_) (fun hc => ?_)
    · have hF := if_t hF hc
      refine aw_iconst hK (0) rfl dX8_composes_183 ?_
      refine aw_istore hK [(5, q_i (0 : Int32)), (0, q_r 70), (1, q_i x1), (2, q_i x2), (3, q_i x3), (4, q_i x4)] (by decide) rfl dX8_composes_184 ?_
      refine aw_sub [1, 2, 3, 4, 5, 0] (lv' := [(0, q_r 70), (1, q_i x1), (2, q_i x2), (3, q_i x3), (4, q_i x4), (5, q_i (0 : Int32))]) rfl ?_
      exact lp_X8_composes_186 hK hR hrec_18 _ hF
    · have hF := if_f hF hc
      refine aw_aload_n hK 0 rfl dX8_composes_59 ?_
      refine gf_8_8 hK rfl (77) rfl (List.mem_of_getElem? (i := 3) rfl) dX8_composes_60 ?_
      refine aw_iload hK 4 rfl dX8_composes_63 ?_
      obtain ⟨g10, hF⟩ := gd_some hF
      refine aw_iald hK rfl g10 dX8_composes_65 ?_
      refine aw_bipush hK (8) rfl dX8_composes_66 ?_
      refine aw_icmp_eq hK 177 rfl dX8_composes_68 (fun hc => ?_) (fun hc => ?_)
      · have hF := if_t hF hc
        refine aw_sub [0, 1, 2, 3, 4, 5] (lv' := [(0, q_r 70), (1, q_i x1), (2, q_i x2), (3, q_i x3), (4, q_i x4), (5, q_i x5)]) rfl ?_
        exact bk_X8_composes_177 hK hR hrec_18 hrec_42 hF
      · have hF := if_f hF hc
        refine aw_aload_n hK 0 rfl dX8_composes_71 ?_
        refine gf_8_8 hK rfl (77) rfl (List.mem_of_getElem? (i := 3) rfl) dX8_composes_72 ?_
        refine aw_iload hK 4 rfl dX8_composes_75 ?_
        obtain ⟨g11, hF⟩ := gd_some hF
        refine aw_iald hK rfl g11 dX8_composes_77 ?_
        refine aw_aload_n hK 0 rfl dX8_composes_78 ?_
        refine gf_8_7 hK rfl (76) rfl (List.mem_of_getElem? (i := 4) rfl) dX8_composes_79 ?_
        refine aw_iload hK 5 rfl dX8_composes_82 ?_
        obtain ⟨g12, hF⟩ := gd_some hF
        refine aw_iald hK rfl g12 dX8_composes_84 ?_
        refine aw_icmp_ne hK 177 rfl dX8_composes_85 (fun hc => ?_) (fun hc => ?_)
        · have hF := if_f hF hc
          refine aw_sub [0, 1, 2, 3, 4, 5] (lv' := [(0, q_r 70), (1, q_i x1), (2, q_i x2), (3, q_i x3), (4, q_i x4), (5, q_i x5)]) rfl ?_
          exact bk_X8_composes_177 hK hR hrec_18 hrec_42 hF
        · have hF := if_t hF hc
          refine aw_aload_n hK 0 rfl dX8_composes_88 ?_
          refine gf_8_9 hK rfl (78) rfl (List.mem_of_getElem? (i := 5) rfl) dX8_composes_89 ?_
          refine aw_iload hK 4 rfl dX8_composes_92 ?_
          obtain ⟨g13, hF⟩ := gd_some hF
          refine aw_iald hK rfl g13 dX8_composes_94 ?_
          refine aw_aload_n hK 0 rfl dX8_composes_95 ?_
          refine gf_8_9 hK rfl (78) rfl (List.mem_of_getElem? (i := 5) rfl) dX8_composes_96 ?_
          refine aw_iload hK 5 rfl dX8_composes_99 ?_
          obtain ⟨g14, hF⟩ := gd_some hF
          refine aw_iald hK rfl g14 dX8_composes_101 ?_
          refine aw_iadd hK dX8_composes_102 ?_
          refine aw_ldc hK (1000000) (List.mem_of_getElem? (i := 6) rfl) dX8_composes_103 ?_
          refine aw_icmp_le hK 110 rfl dX8_composes_105 (fun hc => ?_) (fun hc => ?_)
          · have hF := if_t hF hc
            refine aw_aload_n hK 0 rfl dX8_composes_110 ?_
            refine aw_iload_n hK 3 rfl dX8_composes_111 ?_
            refine aw_aload_n hK 0 rfl dX8_composes_112 ?_
            refine gf_8_6 hK rfl (75) rfl (List.mem_of_getElem? (i := 7) rfl) dX8_composes_113 ?_
            refine aw_iload hK 4 rfl dX8_composes_116 ?_
            obtain ⟨g15, hF⟩ := gd_some hF
            refine aw_iald hK rfl g15 dX8_composes_118 ?_
            refine aw_imul hK dX8_composes_119 ?_
            refine aw_aload_n hK 0 rfl dX8_composes_120 ?_
            refine gf_8_6 hK rfl (75) rfl (List.mem_of_getElem? (i := 7) rfl) dX8_composes_121 ?_
            refine aw_iload hK 5 rfl dX8_composes_124 ?_
            obtain ⟨g16, hF⟩ := gd_some hF
            refine aw_iald hK rfl g16 dX8_composes_126 ?_
            refine aw_iadd hK dX8_composes_127 ?_
            refine aw_aload_n hK 0 rfl dX8_composes_128 ?_
            refine gf_8_7 hK rfl (76) rfl (List.mem_of_getElem? (i := 4) rfl) dX8_composes_129 ?_
            refine aw_iload hK 4 rfl dX8_composes_132 ?_
            obtain ⟨g17, hF⟩ := gd_some hF
            refine aw_iald hK rfl g17 dX8_composes_134 ?_
            refine aw_aload_n hK 0 rfl dX8_composes_135 ?_
            refine gf_8_8 hK rfl (77) rfl (List.mem_of_getElem? (i := 3) rfl) dX8_composes_136 ?_
            refine aw_iload hK 5 rfl dX8_composes_139 ?_
            obtain ⟨g18, hF⟩ := gd_some hF
            refine aw_iald hK rfl g18 dX8_composes_141 ?_
            refine aw_aload_n hK 0 rfl dX8_composes_142 ?_
            refine gf_8_9 hK rfl (78) rfl (List.mem_of_getElem? (i := 5) rfl) dX8_composes_143 ?_
            refine aw_iload hK 4 rfl dX8_composes_146 ?_
            obtain ⟨g19, hF⟩ := gd_some hF
            refine aw_iald hK rfl g19 dX8_composes_148 ?_
            refine aw_aload_n hK 0 rfl dX8_composes_149 ?_
            refine gf_8_9 hK rfl (78) rfl (List.mem_of_getElem? (i := 5) rfl) dX8_composes_150 ?_
            refine aw_iload hK 5 rfl dX8_composes_153 ?_
            obtain ⟨g20, hF⟩ := gd_some hF
            refine aw_iald hK rfl g20 dX8_composes_155 ?_
            refine aw_iadd hK dX8_composes_156 ?_
            refine aw_iload_n hK 3 rfl dX8_composes_157 ?_
            refine aw_aload_n hK 0 rfl dX8_composes_158 ?_
            refine gf_8_10 hK rfl (79) rfl (List.mem_of_getElem? (i := 8) rfl) dX8_composes_159 ?_
            refine aw_iload hK 4 rfl dX8_composes_162 ?_
            obtain ⟨g21, hF⟩ := gd_some hF
            refine aw_iald hK rfl g21 dX8_composes_164 ?_
            refine aw_imul hK dX8_composes_165 ?_
            refine aw_aload_n hK 0 rfl dX8_composes_166 ?_
            refine gf_8_10 hK rfl (79) rfl (List.mem_of_getElem? (i := 8) rfl) dX8_composes_167 ?_
            refine aw_iload hK 5 rfl dX8_composes_170 ?_
            obtain ⟨g22, hF⟩ := gd_some hF
            refine aw_iald hK rfl g22 dX8_composes_172 ?_
            refine aw_iadd hK dX8_composes_173 ?_
            obtain ⟨m24, h23, hF⟩ := calv_some hF
            refine aw_cv hK 8 (as := [q_i ((x3 * (m 75 (ix x4))) + (m 75 (ix x5))), q_i (m 76 (ix x4)), q_i (m 77 (ix x5)), q_i ((m 78 (ix x4)) + (m 78 (ix x5))), q_i ((x3 * (m 79 (ix x4))) + (m 79 (ix x5)))]) (tr_X8_adds h23) gX8_composes_X8_adds rfl rfl rfl (by decide) (na := 5) (by decide +kernel) rfl ⟨by decide, by decide⟩ (Nat.zero_le _) (Nat.le_of_ble_eq_true rfl) dX8_composes_174 ?_
            refine aw_sub [0, 1, 2, 3, 4, 5] (lv' := [(0, q_r 70), (1, q_i x1), (2, q_i x2), (3, q_i x3), (4, q_i x4), (5, q_i x5)]) rfl ?_
            exact bk_X8_composes_177 hK hR hrec_18 hrec_42 hF
          · have hF := if_f hF hc
            refine aw_iconst hK (0) rfl dX8_composes_108 ?_
            obtain ⟨rfl, rfl⟩ := so_inj hF
            exact aw_iret hK hR rfl dX8_composes_109
def S_X8_composes_18 (N : Nat) (rec_18 : Mem → Int32 → Int32 → Int32 → Int32 → Option (Int32 × Mem)) (m : Mem) (x1 : Int32) (x2 : Int32) (x3 : Int32) (x4 : Int32) : Option (Int32 × Mem) :=
  gd (inb x1 (alen 74)) <|
  if (((160 : Int32) * x1) + (m 74 (ix x1))) ≤ x4 then (
    bnd ((160 : Int32) * x2) fun y7 =>
    L_X8_composes_267 N N m x1 x2 x3 y7
  ) else (
    bnd ((160 : Int32) * x2) fun y8 =>
    L_X8_composes_42 N rec_18 N m x1 x2 x3 x4 y8
  )
def L_X8_composes_18 (N : Nat) : Nat → Mem → Int32 → Int32 → Int32 → Int32 → Option (Int32 × Mem)
  | 0 => fun _ _ _ _ _ => none
  | f + 1 => S_X8_composes_18 N (L_X8_composes_18 N f)
set_option maxRecDepth 100000 in
set_option maxHeartbeats 4000000 in
theorem lp_X8_composes_18 {N : Nat} {K : KT} {m' : Mem} {r : Int32} (hK : KOK K cX8_composes 6 RX8 wsX8_composes 3 0 70) (hR : KRet K (some .boolean) (some r) m') : ∀ (f : Nat) {m : Mem} {x1 : Int32} {x2 : Int32} {x3 : Int32} {x4 : Int32}, L_X8_composes_18 N f m x1 x2 x3 x4 = some (r, m') → AW K 0 18 [(0, q_r 70), (1, q_i x1), (2, q_i x2), (3, q_i x3), (4, q_i x4)] [] m := by
  intro f
  induction f with
  | zero => intro m x1 x2 x3 x4 hF; cases hF
  | succ f hrec_18 =>
    intro m x1 x2 x3 x4 hF
    have hF : S_X8_composes_18 N (L_X8_composes_18 N f) m x1 x2 x3 x4 = some (r, m') := hF
    unfold S_X8_composes_18 at hF
    refine aw_iload hK 4 rfl dX8_composes_18 ?_
    refine aw_sipush hK (160) rfl dX8_composes_20 ?_
    refine aw_iload_n hK 1 rfl dX8_composes_23 ?_
    refine aw_imul hK dX8_composes_24 ?_
    refine aw_aload_n hK 0 rfl dX8_composes_25 ?_
    refine gf_8_5 hK rfl (74) rfl (List.mem_of_getElem? (i := 2) rfl) dX8_composes_26 ?_
    refine aw_iload_n hK 1 rfl dX8_composes_29 ?_
    obtain ⟨g6, hF⟩ := gd_some hF
    refine aw_iald hK rfl g6 dX8_composes_30 ?_
    refine aw_iadd hK dX8_composes_31 ?_
    refine aw_icmp_ge hK 260 rfl dX8_composes_32 (fun hc => ?_) (fun hc => ?_)
    · have hF := if_t hF hc
      refine aw_sipush hK (160) rfl dX8_composes_260 ?_
      refine aw_iload_n hK 2 rfl dX8_composes_263 ?_
      refine aw_imul hK dX8_composes_264 ?_
      obtain ⟨y7, hy7, hF⟩ := bnd_some hF
      refine aw_nm hy7 ?_
      refine aw_istore hK [(4, q_i y7), (0, q_r 70), (1, q_i x1), (2, q_i x2), (3, q_i x3)] (by decide) rfl dX8_composes_265 ?_
      refine aw_sub [1, 2, 3, 4, 0] (lv' := [(0, q_r 70), (1, q_i x1), (2, q_i x2), (3, q_i x3), (4, q_i y7)]) rfl ?_
      exact lp_X8_composes_267 hK hR _ hF
    · have hF := if_f hF hc
      refine aw_sipush hK (160) rfl dX8_composes_35 ?_
      refine aw_iload_n hK 2 rfl dX8_composes_38 ?_
      refine aw_imul hK dX8_composes_39 ?_
      obtain ⟨y8, hy8, hF⟩ := bnd_some hF
      refine aw_nm hy8 ?_
      refine aw_istore hK [(5, q_i y8), (0, q_r 70), (1, q_i x1), (2, q_i x2), (3, q_i x3), (4, q_i x4)] (by decide) rfl dX8_composes_40 ?_
      refine aw_sub [1, 2, 3, 4, 5, 0] (lv' := [(0, q_r 70), (1, q_i x1), (2, q_i x2), (3, q_i x3), (4, q_i x4), (5, q_i y8)]) rfl ?_
      exact lp_X8_composes_42 hK hR hrec_18 _ hF
def F_X8_composes (N : Nat) (m : Mem) (x1 : Int32) (x2 : Int32) : Option (Int32 × Mem) :=
  calv (F_X8_begins N m) fun m2 =>
  gd (inb x2 (alen 72)) <|
  bnd (m2 72 (ix x2)) fun y4 =>
  bnd ((160 : Int32) * x1) fun y5 =>
  L_X8_composes_18 N N m2 x1 x2 y4 y5
set_option maxRecDepth 100000 in
set_option maxHeartbeats 4000000 in
theorem tr_X8_composes {N : Nat} {m m' : Mem} {r : Int32} {x1 : Int32} {x2 : Int32} (hF : F_X8_composes N m x1 x2 = some (r, m')) : Tr yX8_composes wsX8_composes 3 70 [q_r 70, q_i x1, q_i x2] m (some r) m' := by
  refine tr_of (bytes := cX8_composes) (maxL := 6) (ret := (some .boolean)) (by decide) rfl (Nat.le_of_ble_eq_true rfl) (fun K hK hR => ?_)
  have hK : KOK K cX8_composes 6 RX8 wsX8_composes 3 0 70 := hK
  show AW K 0 0 [(0, q_r 70), (1, q_i x1), (2, q_i x2)] [] m
  unfold F_X8_composes at hF
  refine aw_aload_n hK 0 rfl dX8_composes_0 ?_
  obtain ⟨m2, h1, hF⟩ := calv_some hF
  refine aw_cv hK 8 (as := []) (tr_X8_begins h1) gX8_composes_X8_begins rfl rfl rfl (by decide) (na := 0) (by decide +kernel) rfl ⟨by decide, by decide⟩ (Nat.zero_le _) (Nat.le_of_ble_eq_true rfl) dX8_composes_1 ?_
  refine aw_aload_n hK 0 rfl dX8_composes_4 ?_
  refine gf_8_3 hK rfl (72) rfl (List.mem_of_getElem? (i := 1) rfl) dX8_composes_5 ?_
  refine aw_iload_n hK 2 rfl dX8_composes_8 ?_
  obtain ⟨g3, hF⟩ := gd_some hF
  refine aw_iald hK rfl g3 dX8_composes_9 ?_
  obtain ⟨y4, hy4, hF⟩ := bnd_some hF
  refine aw_nm hy4 ?_
  refine aw_istore_n hK [(3, q_i y4), (0, q_r 70), (1, q_i x1), (2, q_i x2)] (by decide) rfl dX8_composes_10 ?_
  refine aw_sipush hK (160) rfl dX8_composes_11 ?_
  refine aw_iload_n hK 2 rfl dX8_composes_14 ?_
  refine aw_imul hK dX8_composes_15 ?_
  obtain ⟨y5, hy5, hF⟩ := bnd_some hF
  refine aw_nm hy5 ?_
  refine aw_istore hK [(4, q_i y5), (3, q_i y4), (0, q_r 70), (1, q_i x1), (2, q_i x2)] (by decide) rfl dX8_composes_16 ?_
  refine aw_sub [2, 3, 4, 1, 0] (lv' := [(0, q_r 70), (1, q_i x1), (2, q_i x2), (3, q_i y4), (4, q_i y5)]) rfl ?_
  exact lp_X8_composes_18 hK hR _ hF
def B_X8_compose_52 (N : Nat) (m : Mem) (s0 : Int32) : Option (Int32 × Mem) :=
  cal (F_X8_isFine N m s0) fun r15 m14 =>
  if r15 = (0 : Int32) then (
    some ((0 : Int32), m14)
  ) else (
    cal (F_X8_keeps N m14) fun r18 m17 =>
    some (r18, m17)
  )
set_option maxRecDepth 100000 in
set_option maxHeartbeats 4000000 in
theorem bk_X8_compose_52 {N : Nat} {K : KT} {m' : Mem} {r : Int32} (hK : KOK K cX8_compose 4 RX8 wsX8_compose 4 0 95) (hR : KRet K (some .int) (some r) m') {m : Mem} {s0 : Int32} (hF : B_X8_compose_52 N m s0 = some (r, m')) : AW K 0 52 [(0, q_r 70)] [q_i s0, q_r 70] m := by
  unfold B_X8_compose_52 at hF
  obtain ⟨r15, m14, h13, hF⟩ := cal_some hF
  refine aw_cv hK 8 (as := [q_i s0]) (tr_X8_isFine h13) gX8_compose_X8_isFine rfl rfl rfl (by decide) (na := 1) (by decide +kernel) rfl ⟨by decide, by decide⟩ (Nat.zero_le _) (Nat.le_of_ble_eq_true rfl) dX8_compose_52 ?_
  refine aw_if_ne hK 60 rfl dX8_compose_55 (fun hc => ?_) (fun hc => ?_)
  · have hF := if_f hF hc
    refine aw_aload_n hK 0 rfl dX8_compose_60 ?_
    obtain ⟨r18, m17, h16, hF⟩ := cal_some hF
    refine aw_cv hK 8 (as := []) (tr_X8_keeps h16) gX8_compose_X8_keeps rfl rfl rfl (by decide) (na := 0) (by decide +kernel) rfl ⟨by decide, by decide⟩ (Nat.zero_le _) (Nat.le_of_ble_eq_true rfl) dX8_compose_61 ?_
    obtain ⟨rfl, rfl⟩ := so_inj hF
    exact aw_iret hK hR rfl dX8_compose_64
  · have hF := if_t hF hc
    refine aw_iconst hK (0) rfl dX8_compose_58 ?_
    obtain ⟨rfl, rfl⟩ := so_inj hF
    exact aw_iret hK hR rfl dX8_compose_59
def B_X8_compose_47 (N : Nat) (m : Mem) : Option (Int32 × Mem) :=
  B_X8_compose_52 N m (2 : Int32)
set_option maxRecDepth 100000 in
set_option maxHeartbeats 4000000 in
theorem bk_X8_compose_47 {N : Nat} {K : KT} {m' : Mem} {r : Int32} (hK : KOK K cX8_compose 4 RX8 wsX8_compose 4 0 95) (hR : KRet K (some .int) (some r) m') {m : Mem} (hF : B_X8_compose_47 N m = some (r, m')) : AW K 0 47 [(0, q_r 70)] [q_r 70] m := by
  unfold B_X8_compose_47 at hF
  refine aw_iconst hK (2) rfl dX8_compose_47 ?_
  refine aw_goto hK 52 rfl dX8_compose_48 ?_
  refine aw_sub [0] (lv' := [(0, q_r 70)]) rfl ?_
  exact bk_X8_compose_52 hK hR hF
def B_X8_compose_21 (N : Nat) (m : Mem) (x1 : Int32) (x2 : Int32) (s0 : Int32) : Option (Int32 × Mem) :=
  if s0 = (0 : Int32) then (
    B_X8_compose_52 N m (1 : Int32)
  ) else (
    cal (F_X8_isThere N m) fun r9 m8 =>
    if r9 = (0 : Int32) then (
      B_X8_compose_47 N m8
    ) else (
      cal (F_X8_composes N m8 x1 x2) fun r12 m11 =>
      if r12 = (0 : Int32) then (
        B_X8_compose_47 N m11
      ) else (
        B_X8_compose_52 N m11 (0 : Int32)
      )
    )
  )
set_option maxRecDepth 100000 in
set_option maxHeartbeats 4000000 in
theorem bk_X8_compose_21 {N : Nat} {K : KT} {m' : Mem} {r : Int32} (hK : KOK K cX8_compose 4 RX8 wsX8_compose 4 0 95) (hR : KRet K (some .int) (some r) m') {m : Mem} {x1 : Int32} {x2 : Int32} {s0 : Int32} (hF : B_X8_compose_21 N m x1 x2 s0 = some (r, m')) : AW K 0 21 [(0, q_r 70), (1, q_i x1), (2, q_i x2)] [q_i s0] m := by
  unfold B_X8_compose_21 at hF
  refine aw_istore_n hK [(3, q_i s0), (0, q_r 70), (1, q_i x1), (2, q_i x2)] (by decide) rfl dX8_compose_21 ?_
  refine aw_aload_n hK 1 rfl dX8_compose_22 ?_
  refine aw_iload_n hK 0 rfl dX8_compose_23 ?_
  refine aw_if_ne hK 31 rfl dX8_compose_24 (fun hc => ?_) (fun hc => ?_)
  · have hF := if_f hF hc
    refine aw_aload_n hK 1 rfl dX8_compose_31 ?_
    obtain ⟨r9, m8, h7, hF⟩ := cal_some hF
    refine aw_cv hK 8 (as := []) (tr_X8_isThere h7) gX8_compose_X8_isThere rfl rfl rfl (by decide) (na := 0) (by decide +kernel) rfl ⟨by decide, by decide⟩ (Nat.zero_le _) (Nat.le_of_ble_eq_true rfl) dX8_compose_32 ?_
    refine aw_if_eq hK 47 rfl dX8_compose_35 (fun hc => ?_) (fun hc => ?_)
    · have hF := if_t hF hc
      refine aw_sub [1] (lv' := [(0, q_r 70)]) rfl ?_
      exact bk_X8_compose_47 hK hR hF
    · have hF := if_f hF hc
      refine aw_aload_n hK 1 rfl dX8_compose_38 ?_
      refine aw_iload_n hK 2 rfl dX8_compose_39 ?_
      refine aw_iload_n hK 3 rfl dX8_compose_40 ?_
      obtain ⟨r12, m11, h10, hF⟩ := cal_some hF
      refine aw_cv hK 8 (as := [q_i x1, q_i x2]) (tr_X8_composes h10) gX8_compose_X8_composes rfl rfl rfl (by decide) (na := 2) (by decide +kernel) rfl ⟨by decide, by decide⟩ (Nat.zero_le _) (Nat.le_of_ble_eq_true rfl) dX8_compose_41 ?_
      refine aw_if_ne hK 51 rfl dX8_compose_44 (fun hc => ?_) (fun hc => ?_)
      · have hF := if_f hF hc
        refine aw_iconst hK (0) rfl dX8_compose_51 ?_
        refine aw_sub [1] (lv' := [(0, q_r 70)]) rfl ?_
        exact bk_X8_compose_52 hK hR hF
      · have hF := if_t hF hc
        refine aw_sub [1] (lv' := [(0, q_r 70)]) rfl ?_
        exact bk_X8_compose_47 hK hR hF
  · have hF := if_t hF hc
    refine aw_iconst hK (1) rfl dX8_compose_27 ?_
    refine aw_goto hK 52 rfl dX8_compose_28 ?_
    refine aw_sub [1] (lv' := [(0, q_r 70)]) rfl ?_
    exact bk_X8_compose_52 hK hR hF
def B_X8_compose_20 (N : Nat) (m : Mem) (x1 : Int32) (x2 : Int32) : Option (Int32 × Mem) :=
  B_X8_compose_21 N m x1 x2 (0 : Int32)
set_option maxRecDepth 100000 in
set_option maxHeartbeats 4000000 in
theorem bk_X8_compose_20 {N : Nat} {K : KT} {m' : Mem} {r : Int32} (hK : KOK K cX8_compose 4 RX8 wsX8_compose 4 0 95) (hR : KRet K (some .int) (some r) m') {m : Mem} {x1 : Int32} {x2 : Int32} (hF : B_X8_compose_20 N m x1 x2 = some (r, m')) : AW K 0 20 [(0, q_r 70), (1, q_i x1), (2, q_i x2)] [] m := by
  unfold B_X8_compose_20 at hF
  refine aw_iconst hK (0) rfl dX8_compose_20 ?_
  refine aw_sub [0, 1, 2] (lv' := [(0, q_r 70), (1, q_i x1), (2, q_i x2)]) rfl ?_
  exact bk_X8_compose_21 hK hR hF
def F_X8_compose (N : Nat) (m : Mem) (x1 : Int32) (x2 : Int32) : Option (Int32 × Mem) :=
  cal (F_X8_isMachine N m x1) fun r3 m2 =>
  if r3 = (0 : Int32) then (
    B_X8_compose_20 N m2 x1 x2
  ) else (
    cal (F_X8_isMachine N m2 x2) fun r6 m5 =>
    if r6 = (0 : Int32) then (
      B_X8_compose_20 N m5 x1 x2
    ) else (
      B_X8_compose_21 N m5 x1 x2 (1 : Int32)
    )
  )
set_option maxRecDepth 100000 in
set_option maxHeartbeats 4000000 in
theorem tr_X8_compose {N : Nat} {m m' : Mem} {r : Int32} {x1 : Int32} {x2 : Int32} (hF : F_X8_compose N m x1 x2 = some (r, m')) : Tr yX8_compose wsX8_compose 4 95 [q_r 70, q_i x1, q_i x2] m (some r) m' := by
  refine tr_of (bytes := cX8_compose) (maxL := 4) (ret := (some .int)) (by decide) rfl (Nat.le_of_ble_eq_true rfl) (fun K hK hR => ?_)
  have hK : KOK K cX8_compose 4 RX8 wsX8_compose 4 0 95 := hK
  show AW K 0 0 [(0, q_r 70), (1, q_i x1), (2, q_i x2)] [] m
  unfold F_X8_compose at hF
  refine aw_aload_n hK 0 rfl dX8_compose_0 ?_
  refine aw_iload_n hK 1 rfl dX8_compose_1 ?_
  obtain ⟨r3, m2, h1, hF⟩ := cal_some hF
  refine aw_cv hK 8 (as := [q_i x1]) (tr_X8_isMachine h1) gX8_compose_X8_isMachine rfl rfl rfl (by decide) (na := 1) (by decide +kernel) rfl ⟨by decide, by decide⟩ (Nat.zero_le _) (Nat.le_of_ble_eq_true rfl) dX8_compose_2 ?_
  refine aw_if_eq hK 20 rfl dX8_compose_5 (fun hc => ?_) (fun hc => ?_)
  · have hF := if_t hF hc
    refine aw_sub [0, 1, 2] (lv' := [(0, q_r 70), (1, q_i x1), (2, q_i x2)]) rfl ?_
    exact bk_X8_compose_20 hK hR hF
  · have hF := if_f hF hc
    refine aw_aload_n hK 0 rfl dX8_compose_8 ?_
    refine aw_iload_n hK 2 rfl dX8_compose_9 ?_
    obtain ⟨r6, m5, h4, hF⟩ := cal_some hF
    refine aw_cv hK 8 (as := [q_i x2]) (tr_X8_isMachine h4) gX8_compose_X8_isMachine rfl rfl rfl (by decide) (na := 1) (by decide +kernel) rfl ⟨by decide, by decide⟩ (Nat.zero_le _) (Nat.le_of_ble_eq_true rfl) dX8_compose_10 ?_
    refine aw_if_eq hK 20 rfl dX8_compose_13 (fun hc => ?_) (fun hc => ?_)
    · have hF := if_t hF hc
      refine aw_sub [0, 1, 2] (lv' := [(0, q_r 70), (1, q_i x1), (2, q_i x2)]) rfl ?_
      exact bk_X8_compose_20 hK hR hF
    · have hF := if_f hF hc
      refine aw_iconst hK (1) rfl dX8_compose_16 ?_
      refine aw_goto hK 21 rfl dX8_compose_17 ?_
      refine aw_sub [0, 1, 2] (lv' := [(0, q_r 70), (1, q_i x1), (2, q_i x2)]) rfl ?_
      exact bk_X8_compose_21 hK hR hF
