def B_X4_lettersFrom_116 (N : Nat) (rec_4 : Mem → Int32 → Int32 → Int32 → Option (Int32 × Mem)) (m : Mem) (x1 : Int32) (x2 : Int32) (x3 : Int32) : Option (Int32 × Mem) :=
  bnd (x3 + (1 : Int32)) fun y16 =>
  rec_4 m x1 x2 y16
set_option maxRecDepth 100000 in
set_option maxHeartbeats 4000000 in
theorem bk_X4_lettersFrom_116 {N : Nat} {K : KT} {m' : Mem} {rec_4 : Mem → Int32 → Int32 → Int32 → Option (Int32 × Mem)} {r : Int32} (hK : KOK K cX4_lettersFrom 6 RX4 wsX4_lettersFrom 2 0 46) (hR : KRet K (some .int) (some r) m') (hrec_4 : ∀ {m : Mem} {x1 : Int32} {x2 : Int32} {x3 : Int32}, rec_4 m x1 x2 x3 = some (r, m') → AW K 0 4 [(0, q_r 40), (1, q_i x1), (2, q_i x2), (3, q_i x3)] [] m) {m : Mem} {x1 : Int32} {x2 : Int32} {x3 : Int32} (hF : B_X4_lettersFrom_116 N rec_4 m x1 x2 x3 = some (r, m')) : AW K 0 116 [(0, q_r 40), (1, q_i x1), (2, q_i x2), (3, q_i x3)] [] m := by
  unfold B_X4_lettersFrom_116 at hF
  obtain ⟨y16, hy16, hF⟩ := bnd_some hF
  refine aw_iinc hK (cz := 1) 3 [(3, q_i y16), (0, q_r 40), (1, q_i x1), (2, q_i x2)] (by decide) rfl rfl hy16 rfl dX4_lettersFrom_116 ?_
  refine aw_goto hK 4 rfl dX4_lettersFrom_119 ?_
  refine aw_sub [1, 2, 3, 0] (lv' := [(0, q_r 40), (1, q_i x1), (2, q_i x2), (3, q_i y16)]) rfl ?_
  exact hrec_4 hF
def B_X4_lettersFrom_110 (N : Nat) (rec_4 : Mem → Int32 → Int32 → Int32 → Option (Int32 × Mem)) (rec_33 : Mem → Int32 → Int32 → Int32 → Int32 → Int32 → Option (Int32 × Mem)) (m : Mem) (x1 : Int32) (x2 : Int32) (x3 : Int32) (x4 : Int32) (x5 : Int32) : Option (Int32 × Mem) :=
  bnd (x5 + (1 : Int32)) fun y15 =>
  rec_33 m x1 x2 x3 x4 y15
set_option maxRecDepth 100000 in
set_option maxHeartbeats 4000000 in
theorem bk_X4_lettersFrom_110 {N : Nat} {K : KT} {m' : Mem} {rec_4 : Mem → Int32 → Int32 → Int32 → Option (Int32 × Mem)} {rec_33 : Mem → Int32 → Int32 → Int32 → Int32 → Int32 → Option (Int32 × Mem)} {r : Int32} (hK : KOK K cX4_lettersFrom 6 RX4 wsX4_lettersFrom 2 0 46) (hR : KRet K (some .int) (some r) m') (hrec_4 : ∀ {m : Mem} {x1 : Int32} {x2 : Int32} {x3 : Int32}, rec_4 m x1 x2 x3 = some (r, m') → AW K 0 4 [(0, q_r 40), (1, q_i x1), (2, q_i x2), (3, q_i x3)] [] m) (hrec_33 : ∀ {m : Mem} {x1 : Int32} {x2 : Int32} {x3 : Int32} {x4 : Int32} {x5 : Int32}, rec_33 m x1 x2 x3 x4 x5 = some (r, m') → AW K 0 33 [(0, q_r 40), (1, q_i x1), (2, q_i x2), (3, q_i x3), (4, q_i x4), (5, q_i x5)] [] m) {m : Mem} {x1 : Int32} {x2 : Int32} {x3 : Int32} {x4 : Int32} {x5 : Int32} (hF : B_X4_lettersFrom_110 N rec_4 rec_33 m x1 x2 x3 x4 x5 = some (r, m')) : AW K 0 110 [(0, q_r 40), (1, q_i x1), (2, q_i x2), (3, q_i x3), (4, q_i x4), (5, q_i x5)] [] m := by
  unfold B_X4_lettersFrom_110 at hF
  obtain ⟨y15, hy15, hF⟩ := bnd_some hF
  refine aw_iinc hK (cz := 1) 5 [(5, q_i y15), (0, q_r 40), (1, q_i x1), (2, q_i x2), (3, q_i x3), (4, q_i x4)] (by decide) rfl rfl hy15 rfl dX4_lettersFrom_110 ?_
  refine aw_goto hK 33 rfl dX4_lettersFrom_113 ?_
  refine aw_sub [1, 2, 3, 4, 5, 0] (lv' := [(0, q_r 40), (1, q_i x1), (2, q_i x2), (3, q_i x3), (4, q_i x4), (5, q_i y15)]) rfl ?_
  exact hrec_33 hF
def B_X4_lettersFrom_98 (N : Nat) (rec_4 : Mem → Int32 → Int32 → Int32 → Option (Int32 × Mem)) (rec_33 : Mem → Int32 → Int32 → Int32 → Int32 → Int32 → Option (Int32 × Mem)) (m : Mem) (x1 : Int32) (x2 : Int32) (x3 : Int32) (x4 : Int32) (x5 : Int32) : Option (Int32 × Mem) :=
  gd (inb x5 (alen 44)) <|
  bnd (x2 ||| (q_shl (1 : Int32) (m 44 (ix x5)))) fun y14 =>
  B_X4_lettersFrom_110 N rec_4 rec_33 m x1 y14 x3 x4 x5
set_option maxRecDepth 100000 in
set_option maxHeartbeats 4000000 in
theorem bk_X4_lettersFrom_98 {N : Nat} {K : KT} {m' : Mem} {rec_4 : Mem → Int32 → Int32 → Int32 → Option (Int32 × Mem)} {rec_33 : Mem → Int32 → Int32 → Int32 → Int32 → Int32 → Option (Int32 × Mem)} {r : Int32} (hK : KOK K cX4_lettersFrom 6 RX4 wsX4_lettersFrom 2 0 46) (hR : KRet K (some .int) (some r) m') (hrec_4 : ∀ {m : Mem} {x1 : Int32} {x2 : Int32} {x3 : Int32}, rec_4 m x1 x2 x3 = some (r, m') → AW K 0 4 [(0, q_r 40), (1, q_i x1), (2, q_i x2), (3, q_i x3)] [] m) (hrec_33 : ∀ {m : Mem} {x1 : Int32} {x2 : Int32} {x3 : Int32} {x4 : Int32} {x5 : Int32}, rec_33 m x1 x2 x3 x4 x5 = some (r, m') → AW K 0 33 [(0, q_r 40), (1, q_i x1), (2, q_i x2), (3, q_i x3), (4, q_i x4), (5, q_i x5)] [] m) {m : Mem} {x1 : Int32} {x2 : Int32} {x3 : Int32} {x4 : Int32} {x5 : Int32} (hF : B_X4_lettersFrom_98 N rec_4 rec_33 m x1 x2 x3 x4 x5 = some (r, m')) : AW K 0 98 [(0, q_r 40), (1, q_i x1), (2, q_i x2), (3, q_i x3), (4, q_i x4), (5, q_i x5)] [] m := by
  unfold B_X4_lettersFrom_98 at hF
  refine aw_iload_n hK 2 rfl dX4_lettersFrom_98 ?_
  refine aw_iconst hK (1) rfl dX4_lettersFrom_99 ?_
  refine aw_aload_n hK 0 rfl dX4_lettersFrom_100 ?_
  refine gf_4_7 hK rfl (44) rfl (List.mem_of_getElem? (i := 6) rfl) dX4_lettersFrom_101 ?_
  refine aw_iload hK 5 rfl dX4_lettersFrom_104 ?_
  obtain ⟨g13, hF⟩ := gd_some hF
  refine aw_iald hK rfl g13 dX4_lettersFrom_106 ?_
  refine aw_ishl hK dX4_lettersFrom_107 ?_
  refine aw_ior hK dX4_lettersFrom_108 ?_
  obtain ⟨y14, hy14, hF⟩ := bnd_some hF
  refine aw_nm hy14 ?_
  refine aw_istore_n hK [(2, q_i y14), (0, q_r 40), (1, q_i x1), (3, q_i x3), (4, q_i x4), (5, q_i x5)] (by decide) rfl dX4_lettersFrom_109 ?_
  refine aw_sub [1, 2, 0, 3, 4, 5] (lv' := [(0, q_r 40), (1, q_i x1), (2, q_i y14), (3, q_i x3), (4, q_i x4), (5, q_i x5)]) rfl ?_
  exact bk_X4_lettersFrom_110 hK hR hrec_4 hrec_33 hF
def S_X4_lettersFrom_33 (N : Nat) (rec_4 : Mem → Int32 → Int32 → Int32 → Option (Int32 × Mem)) (rec_33 : Mem → Int32 → Int32 → Int32 → Int32 → Int32 → Option (Int32 × Mem)) (m : Mem) (x1 : Int32) (x2 : Int32) (x3 : Int32) (x4 : Int32) (x5 : Int32) : Option (Int32 × Mem) :=
  bnd (ix (m 40 2)) fun q3 => gd (knd q3 == 3) <|
  if (m (q3 + 1) 2) ≤ x5 then (
    B_X4_lettersFrom_116 N rec_4 m x1 x2 x3
  ) else (
    gd (inb x5 (alen 44)) <|
    if (m 44 (ix x5)) = (8 : Int32) then (
      B_X4_lettersFrom_110 N rec_4 rec_33 m x1 x2 x3 x4 x5
    ) else (
      gd (inb x5 (alen 44)) <|
      if (P_X7_holds x2 (m 44 (ix x5))) = (0 : Int32) then (
        cal (F_X4_isWayStaying N m x5 x4 x3) fun r9 m8 =>
        if r9 = (0 : Int32) then (
          cal (F_X4_isWayReading N m8 x5 x4 x3) fun r12 m11 =>
          if r12 = (0 : Int32) then (
            B_X4_lettersFrom_110 N rec_4 rec_33 m11 x1 x2 x3 x4 x5
          ) else (
            B_X4_lettersFrom_98 N rec_4 rec_33 m11 x1 x2 x3 x4 x5
          )
        ) else (
          B_X4_lettersFrom_98 N rec_4 rec_33 m8 x1 x2 x3 x4 x5
        )
      ) else (
        B_X4_lettersFrom_110 N rec_4 rec_33 m x1 x2 x3 x4 x5
      )
    )
  )
def L_X4_lettersFrom_33 (N : Nat) (rec_4 : Mem → Int32 → Int32 → Int32 → Option (Int32 × Mem)) : Nat → Mem → Int32 → Int32 → Int32 → Int32 → Int32 → Option (Int32 × Mem)
  | 0 => fun _ _ _ _ _ _ => none
  | f + 1 => S_X4_lettersFrom_33 N rec_4 (L_X4_lettersFrom_33 N rec_4 f)
set_option maxRecDepth 100000 in
set_option maxHeartbeats 4000000 in
theorem lp_X4_lettersFrom_33 {N : Nat} {K : KT} {m' : Mem} {rec_4 : Mem → Int32 → Int32 → Int32 → Option (Int32 × Mem)} {r : Int32} (hK : KOK K cX4_lettersFrom 6 RX4 wsX4_lettersFrom 2 0 46) (hR : KRet K (some .int) (some r) m') (hrec_4 : ∀ {m : Mem} {x1 : Int32} {x2 : Int32} {x3 : Int32}, rec_4 m x1 x2 x3 = some (r, m') → AW K 0 4 [(0, q_r 40), (1, q_i x1), (2, q_i x2), (3, q_i x3)] [] m) : ∀ (f : Nat) {m : Mem} {x1 : Int32} {x2 : Int32} {x3 : Int32} {x4 : Int32} {x5 : Int32}, L_X4_lettersFrom_33 N rec_4 f m x1 x2 x3 x4 x5 = some (r, m') → AW K 0 33 [(0, q_r 40), (1, q_i x1), (2, q_i x2), (3, q_i x3), (4, q_i x4), (5, q_i x5)] [] m := by
  intro f
  induction f with
  | zero => intro m x1 x2 x3 x4 x5 hF; cases hF
  | succ f hrec_33 =>
    intro m x1 x2 x3 x4 x5 hF
    have hF : S_X4_lettersFrom_33 N rec_4 (L_X4_lettersFrom_33 N rec_4 f) m x1 x2 x3 x4 x5 = some (r, m') := hF
    unfold S_X4_lettersFrom_33 at hF
    refine aw_iload hK 5 rfl dX4_lettersFrom_33 ?_
    refine aw_aload_n hK 0 rfl dX4_lettersFrom_35 ?_
    refine gf_4_2 hK rfl (List.mem_of_getElem? (i := 3) rfl) dX4_lettersFrom_36 ?_
    obtain ⟨q3, hq3, hF⟩ := bnd_some hF
    obtain ⟨g4, hF⟩ := gd_some hF
    refine aw_nr hq3 ?_
    refine gf_3_0 hK (eq_of_beq g4) (q3 + 1) rfl (List.mem_of_getElem? (i := 4) rfl) dX4_lettersFrom_39 ?_
    refine gf_0_2 hK (kM1 (eq_of_beq g4)) (List.mem_of_getElem? (i := 5) rfl) dX4_lettersFrom_42 ?_
    refine aw_icmp_ge hK 116 rfl dX4_lettersFrom_45 (fun hc => ?_) (fun hc => ?_)
    · have hF := if_t hF hc
      refine aw_sub [0, 1, 2, 3] (lv' := [(0, q_r 40), (1, q_i x1), (2, q_i x2), (3, q_i x3)]) rfl ?_
      exact bk_X4_lettersFrom_116 hK hR hrec_4 hF
    · have hF := if_f hF hc
      refine aw_aload_n hK 0 rfl dX4_lettersFrom_48 ?_
      refine gf_4_7 hK rfl (44) rfl (List.mem_of_getElem? (i := 6) rfl) dX4_lettersFrom_49 ?_
      refine aw_iload hK 5 rfl dX4_lettersFrom_52 ?_
      obtain ⟨g5, hF⟩ := gd_some hF
      refine aw_iald hK rfl g5 dX4_lettersFrom_54 ?_
      refine aw_bipush hK (8) rfl dX4_lettersFrom_55 ?_
      refine aw_icmp_eq hK 110 rfl dX4_lettersFrom_57 (fun hc => ?_) (fun hc => ?_)
      · have hF := if_t hF hc
        refine aw_sub [0, 1, 2, 3, 4, 5] (lv' := [(0, q_r 40), (1, q_i x1), (2, q_i x2), (3, q_i x3), (4, q_i x4), (5, q_i x5)]) rfl ?_
        exact bk_X4_lettersFrom_110 hK hR hrec_4 hrec_33 hF
      · have hF := if_f hF hc
        refine aw_iload_n hK 2 rfl dX4_lettersFrom_60 ?_
        refine aw_aload_n hK 0 rfl dX4_lettersFrom_61 ?_
        refine gf_4_7 hK rfl (44) rfl (List.mem_of_getElem? (i := 6) rfl) dX4_lettersFrom_62 ?_
        refine aw_iload hK 5 rfl dX4_lettersFrom_65 ?_
        obtain ⟨g6, hF⟩ := gd_some hF
        refine aw_iald hK rfl g6 dX4_lettersFrom_67 ?_
        refine aw_csN hK (as := [q_i x2, q_i (m 44 (ix x5))]) (host := "AffixWorks") (trp_X7_holds x2 (m 44 (ix x5)) _) gX4_lettersFrom_X7_holds_n113 rfl (List.mem_of_getElem? (i := 20) rfl) (List.mem_of_getElem? (i := 8) rfl) (List.mem_of_getElem? (i := 7) rfl) (na := 2) (by decide +kernel) rfl ⟨by decide, by decide⟩ (Nat.zero_le _) (Nat.le_of_ble_eq_true rfl) dX4_lettersFrom_68 ?_
        refine aw_if_ne hK 110 rfl dX4_lettersFrom_71 (fun hc => ?_) (fun hc => ?_)
        · have hF := if_f hF hc
          refine aw_sub [0, 1, 2, 3, 4, 5] (lv' := [(0, q_r 40), (1, q_i x1), (2, q_i x2), (3, q_i x3), (4, q_i x4), (5, q_i x5)]) rfl ?_
          exact bk_X4_lettersFrom_110 hK hR hrec_4 hrec_33 hF
        · have hF := if_t hF hc
          refine aw_aload_n hK 0 rfl dX4_lettersFrom_74 ?_
          refine aw_iload hK 5 rfl dX4_lettersFrom_75 ?_
          refine aw_iload hK 4 rfl dX4_lettersFrom_77 ?_
          refine aw_iload_n hK 3 rfl dX4_lettersFrom_79 ?_
          obtain ⟨r9, m8, h7, hF⟩ := cal_some hF
          refine aw_cv hK 4 (as := [q_i x5, q_i x4, q_i x3]) (tr_X4_isWayStaying h7) gX4_lettersFrom_X4_isWayStaying rfl rfl rfl (by decide) (na := 3) (by decide +kernel) rfl ⟨by decide, by decide⟩ (Nat.zero_le _) (Nat.le_of_ble_eq_true rfl) dX4_lettersFrom_80 ?_
          refine aw_if_ne hK 98 rfl dX4_lettersFrom_83 (fun hc => ?_) (fun hc => ?_)
          · have hF := if_f hF hc
            refine aw_sub [0, 1, 2, 3, 4, 5] (lv' := [(0, q_r 40), (1, q_i x1), (2, q_i x2), (3, q_i x3), (4, q_i x4), (5, q_i x5)]) rfl ?_
            exact bk_X4_lettersFrom_98 hK hR hrec_4 hrec_33 hF
          · have hF := if_t hF hc
            refine aw_aload_n hK 0 rfl dX4_lettersFrom_86 ?_
            refine aw_iload hK 5 rfl dX4_lettersFrom_87 ?_
            refine aw_iload hK 4 rfl dX4_lettersFrom_89 ?_
            refine aw_iload_n hK 3 rfl dX4_lettersFrom_91 ?_
            obtain ⟨r12, m11, h10, hF⟩ := cal_some hF
            refine aw_cv hK 4 (as := [q_i x5, q_i x4, q_i x3]) (tr_X4_isWayReading h10) gX4_lettersFrom_X4_isWayReading rfl rfl rfl (by decide) (na := 3) (by decide +kernel) rfl ⟨by decide, by decide⟩ (Nat.zero_le _) (Nat.le_of_ble_eq_true rfl) dX4_lettersFrom_92 ?_
            refine aw_if_eq hK 110 rfl dX4_lettersFrom_95 (fun hc => ?_) (fun hc => ?_)
            · have hF := if_t hF hc
              refine aw_sub [0, 1, 2, 3, 4, 5] (lv' := [(0, q_r 40), (1, q_i x1), (2, q_i x2), (3, q_i x3), (4, q_i x4), (5, q_i x5)]) rfl ?_
              exact bk_X4_lettersFrom_110 hK hR hrec_4 hrec_33 hF
            · have hF := if_f hF hc
              refine aw_sub [0, 1, 2, 3, 4, 5] (lv' := [(0, q_r 40), (1, q_i x1), (2, q_i x2), (3, q_i x3), (4, q_i x4), (5, q_i x5)]) rfl ?_
              exact bk_X4_lettersFrom_98 hK hR hrec_4 hrec_33 hF
def S_X4_lettersFrom_4 (N : Nat) (rec_4 : Mem → Int32 → Int32 → Int32 → Option (Int32 × Mem)) (m : Mem) (x1 : Int32) (x2 : Int32) (x3 : Int32) : Option (Int32 × Mem) :=
  if (m 40 1) < x3 then (
    some (x2, m)
  ) else (
    bnd ((x1 * (9 : Int32)) + x3) fun y1 =>
    gd (inb y1 (alen 47)) <|
    if (m 47 (ix y1)) = (0 : Int32) then (
      B_X4_lettersFrom_116 N rec_4 m x1 x2 x3
    ) else (
      L_X4_lettersFrom_33 N rec_4 N m x1 x2 x3 y1 (0 : Int32)
    )
  )
def L_X4_lettersFrom_4 (N : Nat) : Nat → Mem → Int32 → Int32 → Int32 → Option (Int32 × Mem)
  | 0 => fun _ _ _ _ => none
  | f + 1 => S_X4_lettersFrom_4 N (L_X4_lettersFrom_4 N f)
set_option maxRecDepth 100000 in
set_option maxHeartbeats 4000000 in
theorem lp_X4_lettersFrom_4 {N : Nat} {K : KT} {m' : Mem} {r : Int32} (hK : KOK K cX4_lettersFrom 6 RX4 wsX4_lettersFrom 2 0 46) (hR : KRet K (some .int) (some r) m') : ∀ (f : Nat) {m : Mem} {x1 : Int32} {x2 : Int32} {x3 : Int32}, L_X4_lettersFrom_4 N f m x1 x2 x3 = some (r, m') → AW K 0 4 [(0, q_r 40), (1, q_i x1), (2, q_i x2), (3, q_i x3)] [] m := by
  intro f
  induction f with
  | zero => intro m x1 x2 x3 hF; cases hF
  | succ f hrec_4 =>
    intro m x1 x2 x3 hF
    have hF : S_X4_lettersFrom_4 N (L_X4_lettersFrom_4 N f) m x1 x2 x3 = some (r, m') := hF
    unfold S_X4_lettersFrom_4 at hF
    refine aw_iload_n hK 3 rfl dX4_lettersFrom_4 ?_
    refine aw_aload_n hK 0 rfl dX4_lettersFrom_5 ?_
    refine gf_4_1 hK rfl (List.mem_of_getElem? (i := 1) rfl) dX4_lettersFrom_6 ?_
    refine aw_icmp_gt hK 122 rfl dX4_lettersFrom_9 (fun hc => ?_) (fun hc => ?_)
    · have hF := if_t hF hc
      refine aw_iload_n hK 2 rfl dX4_lettersFrom_122 ?_
      obtain ⟨rfl, rfl⟩ := so_inj hF
      exact aw_iret hK hR rfl dX4_lettersFrom_123
    · have hF := if_f hF hc
      refine aw_iload_n hK 1 rfl dX4_lettersFrom_12 ?_
      refine aw_bipush hK (9) rfl dX4_lettersFrom_13 ?_
      refine aw_imul hK dX4_lettersFrom_15 ?_
      refine aw_iload_n hK 3 rfl dX4_lettersFrom_16 ?_
      refine aw_iadd hK dX4_lettersFrom_17 ?_
      obtain ⟨y1, hy1, hF⟩ := bnd_some hF
      refine aw_nm hy1 ?_
      refine aw_istore hK [(4, q_i y1), (0, q_r 40), (1, q_i x1), (2, q_i x2), (3, q_i x3)] (by decide) rfl dX4_lettersFrom_18 ?_
      refine aw_aload_n hK 1 rfl dX4_lettersFrom_20 ?_
      refine gf_4_10 hK rfl (47) rfl (List.mem_of_getElem? (i := 2) rfl) dX4_lettersFrom_21 ?_
      refine aw_iload hK 0 rfl dX4_lettersFrom_24 ?_
      obtain ⟨g2, hF⟩ := gd_some hF
      refine aw_iald hK rfl g2 dX4_lettersFrom_26 ?_
      refine aw_if_eq hK 116 rfl dX4_lettersFrom_27 (fun hc => ?_) (fun hc => ?_)
      · have hF := if_t hF hc
        refine aw_sub [1, 2, 3, 4] (lv' := [(0, q_r 40), (1, q_i x1), (2, q_i x2), (3, q_i x3)]) rfl ?_
        exact bk_X4_lettersFrom_116 hK hR hrec_4 hF
      · have hF := if_f hF hc
        refine aw_iconst hK (0) rfl dX4_lettersFrom_30 ?_
        refine aw_istore hK [(5, q_i (0 : Int32)), (4, q_i y1), (0, q_r 40), (1, q_i x1), (2, q_i x2), (3, q_i x3)] (by decide) rfl dX4_lettersFrom_31 ?_
        refine aw_sub [2, 3, 4, 5, 1, 0] (lv' := [(0, q_r 40), (1, q_i x1), (2, q_i x2), (3, q_i x3), (4, q_i y1), (5, q_i (0 : Int32))]) rfl ?_
        exact lp_X4_lettersFrom_33 hK hR hrec_4 _ hF
def F_X4_lettersFrom (N : Nat) (m : Mem) (x1 : Int32) : Option (Int32 × Mem) :=
  L_X4_lettersFrom_4 N N m x1 (0 : Int32) (0 : Int32)
set_option maxRecDepth 100000 in
set_option maxHeartbeats 4000000 in
theorem tr_X4_lettersFrom {N : Nat} {m m' : Mem} {r : Int32} {x1 : Int32} (hF : F_X4_lettersFrom N m x1 = some (r, m')) : Tr yX4_lettersFrom wsX4_lettersFrom 2 46 [q_r 40, q_i x1] m (some r) m' := by
  refine tr_of (bytes := cX4_lettersFrom) (maxL := 6) (ret := (some .int)) (by decide) rfl (Nat.le_of_ble_eq_true rfl) (fun K hK hR => ?_)
  have hK : KOK K cX4_lettersFrom 6 RX4 wsX4_lettersFrom 2 0 46 := hK
  show AW K 0 0 [(0, q_r 40), (1, q_i x1)] [] m
  unfold F_X4_lettersFrom at hF
  refine aw_iconst hK (0) rfl dX4_lettersFrom_0 ?_
  refine aw_istore_n hK [(2, q_i (0 : Int32)), (0, q_r 40), (1, q_i x1)] (by decide) rfl dX4_lettersFrom_1 ?_
  refine aw_iconst hK (0) rfl dX4_lettersFrom_2 ?_
  refine aw_istore_n hK [(3, q_i (0 : Int32)), (2, q_i (0 : Int32)), (0, q_r 40), (1, q_i x1)] (by decide) rfl dX4_lettersFrom_3 ?_
  refine aw_sub [2, 3, 1, 0] (lv' := [(0, q_r 40), (1, q_i x1), (2, q_i (0 : Int32)), (3, q_i (0 : Int32))]) rfl ?_
  exact lp_X4_lettersFrom_4 hK hR _ hF
def B_X4_enter_93 (N : Nat) (m : Mem) (s0 : Int32) : Option (Int32 × Mem) :=
  gd (isb s0) <|
  some (s0, m)
set_option maxRecDepth 100000 in
set_option maxHeartbeats 4000000 in
theorem bk_X4_enter_93 {N : Nat} {K : KT} {m' : Mem} {r : Int32} (hK : KOK K cX4_enter 3 RX4 wsX4_enter 3 0 71) (hR : KRet K (some .boolean) (some r) m') {m : Mem} {s0 : Int32} (hF : B_X4_enter_93 N m s0 = some (r, m')) : AW K 0 93 [] [q_i s0] m := by
  unfold B_X4_enter_93 at hF
  obtain ⟨g15, hF⟩ := gd_some hF
  obtain ⟨rfl, rfl⟩ := so_inj hF
  exact aw_iret hK hR (isb_narrow g15) dX4_enter_93
def B_X4_enter_46 (N : Nat) (rec_2 : Mem → Int32 → Int32 → Option (Int32 × Mem)) (m : Mem) (x1 : Int32) (x2 : Int32) : Option (Int32 × Mem) :=
  bnd (x2 + (1 : Int32)) fun y14 =>
  rec_2 m x1 y14
set_option maxRecDepth 100000 in
set_option maxHeartbeats 4000000 in
theorem bk_X4_enter_46 {N : Nat} {K : KT} {m' : Mem} {rec_2 : Mem → Int32 → Int32 → Option (Int32 × Mem)} {r : Int32} (hK : KOK K cX4_enter 3 RX4 wsX4_enter 3 0 71) (hR : KRet K (some .boolean) (some r) m') (hrec_2 : ∀ {m : Mem} {x1 : Int32} {x2 : Int32}, rec_2 m x1 x2 = some (r, m') → AW K 0 2 [(0, q_r 40), (1, q_i x1), (2, q_i x2)] [] m) {m : Mem} {x1 : Int32} {x2 : Int32} (hF : B_X4_enter_46 N rec_2 m x1 x2 = some (r, m')) : AW K 0 46 [(0, q_r 40), (1, q_i x1), (2, q_i x2)] [] m := by
  unfold B_X4_enter_46 at hF
  obtain ⟨y14, hy14, hF⟩ := bnd_some hF
  refine aw_iinc hK (cz := 1) 2 [(2, q_i y14), (0, q_r 40), (1, q_i x1)] (by decide) rfl rfl hy14 rfl dX4_enter_46 ?_
  refine aw_goto hK 2 rfl dX4_enter_49 ?_
  refine aw_sub [1, 2, 0] (lv' := [(0, q_r 40), (1, q_i x1), (2, q_i y14)]) rfl ?_
  exact hrec_2 hF
def S_X4_enter_2 (N : Nat) (rec_2 : Mem → Int32 → Int32 → Option (Int32 × Mem)) (m : Mem) (x1 : Int32) (x2 : Int32) : Option (Int32 × Mem) :=
  if (m 40 1) < x2 then (
    cal (F_X4_lettersFrom N m x1) fun r3 m2 =>
    gd (inb x1 (alen 48)) <|
    bnd (mup m2 48 (ix x1) r3) fun m5 =>
    gd (inb ((x1 * (9 : Int32)) + (m5 40 1)) (alen 47)) <|
    bnd (ix (m5 40 2)) fun q7 => gd (knd q7 == 3) <|
    if ((m5 47 (ix ((x1 * (9 : Int32)) + (m5 40 1)))) &&& (m5 q7 2)) = (0 : Int32) then (
      B_X4_enter_93 N m5 (0 : Int32)
    ) else (
      B_X4_enter_93 N m5 (1 : Int32)
    )
  ) else (
    gd (inb ((x1 * (9 : Int32)) + x2) (alen 47)) <|
    if (m 47 (ix ((x1 * (9 : Int32)) + x2))) = (0 : Int32) then (
      B_X4_enter_46 N rec_2 m x1 x2
    ) else (
      calv (F_X4_spreadStaying N m ((x1 * (9 : Int32)) + x2) x2) fun m11 =>
      calv (F_X4_spreadReading N m11 ((x1 * (9 : Int32)) + x2) x2) fun m13 =>
      B_X4_enter_46 N rec_2 m13 x1 x2
    )
  )
def L_X4_enter_2 (N : Nat) : Nat → Mem → Int32 → Int32 → Option (Int32 × Mem)
  | 0 => fun _ _ _ => none
  | f + 1 => S_X4_enter_2 N (L_X4_enter_2 N f)
set_option maxRecDepth 100000 in
set_option maxHeartbeats 4000000 in
theorem lp_X4_enter_2 {N : Nat} {K : KT} {m' : Mem} {r : Int32} (hK : KOK K cX4_enter 3 RX4 wsX4_enter 3 0 71) (hR : KRet K (some .boolean) (some r) m') : ∀ (f : Nat) {m : Mem} {x1 : Int32} {x2 : Int32}, L_X4_enter_2 N f m x1 x2 = some (r, m') → AW K 0 2 [(0, q_r 40), (1, q_i x1), (2, q_i x2)] [] m := by
  intro f
  induction f with
  | zero => intro m x1 x2 hF; cases hF
  | succ f hrec_2 =>
    intro m x1 x2 hF
    have hF : S_X4_enter_2 N (L_X4_enter_2 N f) m x1 x2 = some (r, m') := hF
    unfold S_X4_enter_2 at hF
    refine aw_iload_n hK 2 rfl dX4_enter_2 ?_
    refine aw_aload_n hK 0 rfl dX4_enter_3 ?_
    refine gf_4_1 hK rfl (List.mem_of_getElem? (i := 1) rfl) dX4_enter_4 ?_
    refine aw_icmp_gt hK 52 rfl dX4_enter_7 (fun hc => ?_) (fun hc => ?_)
    · have hF := if_t hF hc
      refine aw_aload_n hK 0 rfl dX4_enter_52 ?_
      refine gf_4_11 hK rfl (48) rfl (List.mem_of_getElem? (i := 3) rfl) dX4_enter_53 ?_
      refine aw_iload_n hK 1 rfl dX4_enter_56 ?_
      refine aw_aload_n hK 0 rfl dX4_enter_57 ?_
      refine aw_iload_n hK 1 rfl dX4_enter_58 ?_
      obtain ⟨r3, m2, h1, hF⟩ := cal_some hF
      refine aw_cv hK 4 (as := [q_i x1]) (tr_X4_lettersFrom h1) gX4_enter_X4_lettersFrom rfl rfl rfl (by decide) (na := 1) (by decide +kernel) rfl ⟨by decide, by decide⟩ (Nat.zero_le _) (Nat.le_of_ble_eq_true rfl) dX4_enter_59 ?_
      obtain ⟨g4, hF⟩ := gd_some hF
      refine aw_iast hK rfl g4 dX4_enter_62 ?_
      obtain ⟨m5, hm5, hF⟩ := bnd_some hF
      refine aw_mm hm5 ?_
      refine aw_aload_n hK 0 rfl dX4_enter_63 ?_
      refine gf_4_10 hK rfl (47) rfl (List.mem_of_getElem? (i := 2) rfl) dX4_enter_64 ?_
      refine aw_iload_n hK 1 rfl dX4_enter_67 ?_
      refine aw_bipush hK (9) rfl dX4_enter_68 ?_
      refine aw_imul hK dX4_enter_70 ?_
      refine aw_aload_n hK 0 rfl dX4_enter_71 ?_
      refine gf_4_1 hK rfl (List.mem_of_getElem? (i := 1) rfl) dX4_enter_72 ?_
      refine aw_iadd hK dX4_enter_75 ?_
      obtain ⟨g6, hF⟩ := gd_some hF
      refine aw_iald hK rfl g6 dX4_enter_76 ?_
      refine aw_aload_n hK 0 rfl dX4_enter_77 ?_
      refine gf_4_2 hK rfl (List.mem_of_getElem? (i := 4) rfl) dX4_enter_78 ?_
      obtain ⟨q7, hq7, hF⟩ := bnd_some hF
      obtain ⟨g8, hF⟩ := gd_some hF
      refine aw_nr hq7 ?_
      refine gf_3_2 hK (eq_of_beq g8) (List.mem_of_getElem? (i := 5) rfl) dX4_enter_81 ?_
      refine aw_iand hK dX4_enter_84 ?_
      refine aw_if_eq hK 92 rfl dX4_enter_85 (fun hc => ?_) (fun hc => ?_)
      · have hF := if_t hF hc
        refine aw_iconst hK (0) rfl dX4_enter_92 ?_
        refine aw_sub [] (lv' := []) rfl ?_
        exact bk_X4_enter_93 hK hR hF
      · have hF := if_f hF hc
        refine aw_iconst hK (1) rfl dX4_enter_88 ?_
        refine aw_goto hK 93 rfl dX4_enter_89 ?_
        refine aw_sub [] (lv' := []) rfl ?_
        exact bk_X4_enter_93 hK hR hF
    · have hF := if_f hF hc
      refine aw_aload_n hK 0 rfl dX4_enter_10 ?_
      refine gf_4_10 hK rfl (47) rfl (List.mem_of_getElem? (i := 2) rfl) dX4_enter_11 ?_
      refine aw_iload_n hK 1 rfl dX4_enter_14 ?_
      refine aw_bipush hK (9) rfl dX4_enter_15 ?_
      refine aw_imul hK dX4_enter_17 ?_
      refine aw_iload_n hK 2 rfl dX4_enter_18 ?_
      refine aw_iadd hK dX4_enter_19 ?_
      obtain ⟨g9, hF⟩ := gd_some hF
      refine aw_iald hK rfl g9 dX4_enter_20 ?_
      refine aw_if_eq hK 46 rfl dX4_enter_21 (fun hc => ?_) (fun hc => ?_)
      · have hF := if_t hF hc
        refine aw_sub [0, 1, 2] (lv' := [(0, q_r 40), (1, q_i x1), (2, q_i x2)]) rfl ?_
        exact bk_X4_enter_46 hK hR hrec_2 hF
      · have hF := if_f hF hc
        refine aw_aload_n hK 0 rfl dX4_enter_24 ?_
        refine aw_iload_n hK 1 rfl dX4_enter_25 ?_
        refine aw_bipush hK (9) rfl dX4_enter_26 ?_
        refine aw_imul hK dX4_enter_28 ?_
        refine aw_iload_n hK 2 rfl dX4_enter_29 ?_
        refine aw_iadd hK dX4_enter_30 ?_
        refine aw_iload_n hK 2 rfl dX4_enter_31 ?_
        obtain ⟨m11, h10, hF⟩ := calv_some hF
        refine aw_cv hK 4 (as := [q_i ((x1 * (9 : Int32)) + x2), q_i x2]) (tr_X4_spreadStaying h10) gX4_enter_X4_spreadStaying rfl rfl rfl (by decide) (na := 2) (by decide +kernel) rfl ⟨by decide, by decide⟩ (Nat.zero_le _) (Nat.le_of_ble_eq_true rfl) dX4_enter_32 ?_
        refine aw_aload_n hK 0 rfl dX4_enter_35 ?_
        refine aw_iload_n hK 1 rfl dX4_enter_36 ?_
        refine aw_bipush hK (9) rfl dX4_enter_37 ?_
        refine aw_imul hK dX4_enter_39 ?_
        refine aw_iload_n hK 2 rfl dX4_enter_40 ?_
        refine aw_iadd hK dX4_enter_41 ?_
        refine aw_iload_n hK 2 rfl dX4_enter_42 ?_
        obtain ⟨m13, h12, hF⟩ := calv_some hF
        refine aw_cv hK 4 (as := [q_i ((x1 * (9 : Int32)) + x2), q_i x2]) (tr_X4_spreadReading h12) gX4_enter_X4_spreadReading rfl rfl rfl (by decide) (na := 2) (by decide +kernel) rfl ⟨by decide, by decide⟩ (Nat.zero_le _) (Nat.le_of_ble_eq_true rfl) dX4_enter_43 ?_
        refine aw_sub [0, 1, 2] (lv' := [(0, q_r 40), (1, q_i x1), (2, q_i x2)]) rfl ?_
        exact bk_X4_enter_46 hK hR hrec_2 hF
def F_X4_enter (N : Nat) (m : Mem) (x1 : Int32) : Option (Int32 × Mem) :=
  L_X4_enter_2 N N m x1 (0 : Int32)
set_option maxRecDepth 100000 in
set_option maxHeartbeats 4000000 in
theorem tr_X4_enter {N : Nat} {m m' : Mem} {r : Int32} {x1 : Int32} (hF : F_X4_enter N m x1 = some (r, m')) : Tr yX4_enter wsX4_enter 3 71 [q_r 40, q_i x1] m (some r) m' := by
  refine tr_of (bytes := cX4_enter) (maxL := 3) (ret := (some .boolean)) (by decide) rfl (Nat.le_of_ble_eq_true rfl) (fun K hK hR => ?_)
  have hK : KOK K cX4_enter 3 RX4 wsX4_enter 3 0 71 := hK
  show AW K 0 0 [(0, q_r 40), (1, q_i x1)] [] m
  unfold F_X4_enter at hF
  refine aw_iconst hK (0) rfl dX4_enter_0 ?_
  refine aw_istore_n hK [(2, q_i (0 : Int32)), (0, q_r 40), (1, q_i x1)] (by decide) rfl dX4_enter_1 ?_
  refine aw_sub [1, 2, 0] (lv' := [(0, q_r 40), (1, q_i x1), (2, q_i (0 : Int32))]) rfl ?_
  exact lp_X4_enter_2 hK hR _ hF
def S_X4_lowestIn_2 (N : Nat) (rec_2 : Mem → Int32 → Int32 → Option (Int32 × Mem)) (m : Mem) (x0 : Int32) (x1 : Int32) : Option (Int32 × Mem) :=
  if (8 : Int32) ≤ x1 then (
    some ((-1 : Int32), m)
  ) else (
    if (P_X7_holds x0 x1) = (0 : Int32) then (
      bnd (x1 + (1 : Int32)) fun y1 =>
      rec_2 m x0 y1
    ) else (
      some (x1, m)
    )
  )
def L_X4_lowestIn_2 (N : Nat) : Nat → Mem → Int32 → Int32 → Option (Int32 × Mem)
  | 0 => fun _ _ _ => none
  | f + 1 => S_X4_lowestIn_2 N (L_X4_lowestIn_2 N f)
set_option maxRecDepth 100000 in
set_option maxHeartbeats 4000000 in
theorem lp_X4_lowestIn_2 {N : Nat} {K : KT} {m' : Mem} {r : Int32} (hK : KOK K cX4_lowestIn 2 RX4 wsX4_lowestIn 1 0 21) (hR : KRet K (some .int) (some r) m') : ∀ (f : Nat) {m : Mem} {x0 : Int32} {x1 : Int32}, L_X4_lowestIn_2 N f m x0 x1 = some (r, m') → AW K 0 2 [(0, q_i x0), (1, q_i x1)] [] m := by
  intro f
  induction f with
  | zero => intro m x0 x1 hF; cases hF
  | succ f hrec_2 =>
    intro m x0 x1 hF
    have hF : S_X4_lowestIn_2 N (L_X4_lowestIn_2 N f) m x0 x1 = some (r, m') := hF
    unfold S_X4_lowestIn_2 at hF
    refine aw_iload_n hK 1 rfl dX4_lowestIn_2 ?_
    refine aw_bipush hK (8) rfl dX4_lowestIn_3 ?_
    refine aw_icmp_ge hK 24 rfl dX4_lowestIn_5 (fun hc => ?_) (fun hc => ?_)
    · have hF := if_t hF hc
      refine aw_iconst hK (-1) rfl dX4_lowestIn_24 ?_
      obtain ⟨rfl, rfl⟩ := so_inj hF
      exact aw_iret hK hR rfl dX4_lowestIn_25
    · have hF := if_f hF hc
      refine aw_iload_n hK 0 rfl dX4_lowestIn_8 ?_
      refine aw_iload_n hK 1 rfl dX4_lowestIn_9 ?_
      refine aw_csN hK (as := [q_i x0, q_i x1]) (host := "AffixWorks") (trp_X7_holds x0 x1 _) gX4_lowestIn_X7_holds_n113 rfl (List.mem_of_getElem? (i := 20) rfl) (List.mem_of_getElem? (i := 2) rfl) (List.mem_of_getElem? (i := 1) rfl) (na := 2) (by decide +kernel) rfl ⟨by decide, by decide⟩ (Nat.zero_le _) (Nat.le_of_ble_eq_true rfl) dX4_lowestIn_10 ?_
      refine aw_if_eq hK 18 rfl dX4_lowestIn_13 (fun hc => ?_) (fun hc => ?_)
      · have hF := if_t hF hc
        obtain ⟨y1, hy1, hF⟩ := bnd_some hF
        refine aw_iinc hK (cz := 1) 1 [(1, q_i y1), (0, q_i x0)] (by decide) rfl rfl hy1 rfl dX4_lowestIn_18 ?_
        refine aw_goto hK 2 rfl dX4_lowestIn_21 ?_
        refine aw_sub [1, 0] (lv' := [(0, q_i x0), (1, q_i y1)]) rfl ?_
        exact hrec_2 hF
      · have hF := if_f hF hc
        refine aw_iload_n hK 1 rfl dX4_lowestIn_16 ?_
        obtain ⟨rfl, rfl⟩ := so_inj hF
        exact aw_iret hK hR rfl dX4_lowestIn_17
def F_X4_lowestIn (N : Nat) (m : Mem) (x0 : Int32) : Option (Int32 × Mem) :=
  L_X4_lowestIn_2 N N m x0 (0 : Int32)
set_option maxRecDepth 100000 in
set_option maxHeartbeats 4000000 in
theorem tr_X4_lowestIn {N : Nat} {m m' : Mem} {r : Int32} {x0 : Int32} (hF : F_X4_lowestIn N m x0 = some (r, m')) : Tr yX4_lowestIn wsX4_lowestIn 1 21 [q_i x0] m (some r) m' := by
  refine tr_of (bytes := cX4_lowestIn) (maxL := 2) (ret := (some .int)) (by decide) rfl (Nat.le_of_ble_eq_true rfl) (fun K hK hR => ?_)
  have hK : KOK K cX4_lowestIn 2 RX4 wsX4_lowestIn 1 0 21 := hK
  show AW K 0 0 [(0, q_i x0)] [] m
  unfold F_X4_lowestIn at hF
  refine aw_iconst hK (0) rfl dX4_lowestIn_0 ?_
  refine aw_istore_n hK [(1, q_i (0 : Int32)), (0, q_i x0)] (by decide) rfl dX4_lowestIn_1 ?_
  refine aw_sub [1, 0] (lv' := [(0, q_i x0), (1, q_i (0 : Int32))]) rfl ?_
  exact lp_X4_lowestIn_2 hK hR _ hF
def B_X4_step_151 (N : Nat) (rec_9 : Mem → Int32 → Int32 → Int32 → Option Mem) (m : Mem) (x1 : Int32) (x2 : Int32) (x3 : Int32) : Option Mem :=
  bnd (x3 + (1 : Int32)) fun y24 =>
  rec_9 m x1 x2 y24
set_option maxRecDepth 100000 in
set_option maxHeartbeats 4000000 in
theorem bk_X4_step_151 {N : Nat} {K : KT} {m' : Mem} {rec_9 : Mem → Int32 → Int32 → Int32 → Option Mem} (hK : KOK K cX4_step 6 RX4 wsX4_step 2 0 46) (hR : KRet K none none m') (hrec_9 : ∀ {m : Mem} {x1 : Int32} {x2 : Int32} {x3 : Int32}, rec_9 m x1 x2 x3 = some m' → AW K 0 9 [(0, q_r 40), (1, q_i x1), (2, q_i x2), (3, q_i x3)] [] m) {m : Mem} {x1 : Int32} {x2 : Int32} {x3 : Int32} (hF : B_X4_step_151 N rec_9 m x1 x2 x3 = some m') : AW K 0 151 [(0, q_r 40), (1, q_i x1), (2, q_i x2), (3, q_i x3)] [] m := by
  unfold B_X4_step_151 at hF
  obtain ⟨y24, hy24, hF⟩ := bnd_some hF
  refine aw_iinc hK (cz := 1) 3 [(3, q_i y24), (0, q_r 40), (1, q_i x1), (2, q_i x2)] (by decide) rfl rfl hy24 rfl dX4_step_151 ?_
  refine aw_goto hK 9 rfl dX4_step_154 ?_
  refine aw_sub [1, 2, 3, 0] (lv' := [(0, q_r 40), (1, q_i x1), (2, q_i x2), (3, q_i y24)]) rfl ?_
  exact hrec_9 hF
def B_X4_step_145 (N : Nat) (rec_9 : Mem → Int32 → Int32 → Int32 → Option Mem) (rec_38 : Mem → Int32 → Int32 → Int32 → Int32 → Int32 → Option Mem) (m : Mem) (x1 : Int32) (x2 : Int32) (x3 : Int32) (x4 : Int32) (x5 : Int32) : Option Mem :=
  bnd (x5 + (1 : Int32)) fun y23 =>
  rec_38 m x1 x2 x3 x4 y23
set_option maxRecDepth 100000 in
set_option maxHeartbeats 4000000 in
theorem bk_X4_step_145 {N : Nat} {K : KT} {m' : Mem} {rec_9 : Mem → Int32 → Int32 → Int32 → Option Mem} {rec_38 : Mem → Int32 → Int32 → Int32 → Int32 → Int32 → Option Mem} (hK : KOK K cX4_step 6 RX4 wsX4_step 2 0 46) (hR : KRet K none none m') (hrec_9 : ∀ {m : Mem} {x1 : Int32} {x2 : Int32} {x3 : Int32}, rec_9 m x1 x2 x3 = some m' → AW K 0 9 [(0, q_r 40), (1, q_i x1), (2, q_i x2), (3, q_i x3)] [] m) (hrec_38 : ∀ {m : Mem} {x1 : Int32} {x2 : Int32} {x3 : Int32} {x4 : Int32} {x5 : Int32}, rec_38 m x1 x2 x3 x4 x5 = some m' → AW K 0 38 [(0, q_r 40), (1, q_i x1), (2, q_i x2), (3, q_i x3), (4, q_i x4), (5, q_i x5)] [] m) {m : Mem} {x1 : Int32} {x2 : Int32} {x3 : Int32} {x4 : Int32} {x5 : Int32} (hF : B_X4_step_145 N rec_9 rec_38 m x1 x2 x3 x4 x5 = some m') : AW K 0 145 [(0, q_r 40), (1, q_i x1), (2, q_i x2), (3, q_i x3), (4, q_i x4), (5, q_i x5)] [] m := by
  unfold B_X4_step_145 at hF
  obtain ⟨y23, hy23, hF⟩ := bnd_some hF
  refine aw_iinc hK (cz := 1) 5 [(5, q_i y23), (0, q_r 40), (1, q_i x1), (2, q_i x2), (3, q_i x3), (4, q_i x4)] (by decide) rfl rfl hy23 rfl dX4_step_145 ?_
  refine aw_goto hK 38 rfl dX4_step_148 ?_
  refine aw_sub [1, 2, 3, 4, 5, 0] (lv' := [(0, q_r 40), (1, q_i x1), (2, q_i x2), (3, q_i x3), (4, q_i x4), (5, q_i y23)]) rfl ?_
  exact hrec_38 hF
def B_X4_step_98 (N : Nat) (rec_9 : Mem → Int32 → Int32 → Int32 → Option Mem) (rec_38 : Mem → Int32 → Int32 → Int32 → Int32 → Int32 → Option Mem) (m : Mem) (x1 : Int32) (x2 : Int32) (x3 : Int32) (x4 : Int32) (x5 : Int32) : Option Mem :=
  gd (inb x5 (alen 44)) <|
  if (m 44 (ix x5)) = x2 then (
    cal (F_X4_isWayReading N m x5 x4 x3) fun r18 m17 =>
    if r18 = (0 : Int32) then (
      B_X4_step_145 N rec_9 rec_38 m17 x1 x2 x3 x4 x5
    ) else (
      gd (inb ((x4 + (9 : Int32)) + (1 : Int32)) (alen 47)) <|
      gd (inb x5 (alen 45)) <|
      gd (inb ((x4 + (9 : Int32)) + (1 : Int32)) (alen 47)) <|
      bnd (mup m17 47 (ix ((x4 + (9 : Int32)) + (1 : Int32))) ((m17 47 (ix ((x4 + (9 : Int32)) + (1 : Int32)))) ||| (q_shl (1 : Int32) (m17 45 (ix x5))))) fun m22 =>
      B_X4_step_145 N rec_9 rec_38 m22 x1 x2 x3 x4 x5
    )
  ) else (
    B_X4_step_145 N rec_9 rec_38 m x1 x2 x3 x4 x5
  )
set_option maxRecDepth 100000 in
set_option maxHeartbeats 4000000 in
theorem bk_X4_step_98 {N : Nat} {K : KT} {m' : Mem} {rec_9 : Mem → Int32 → Int32 → Int32 → Option Mem} {rec_38 : Mem → Int32 → Int32 → Int32 → Int32 → Int32 → Option Mem} (hK : KOK K cX4_step 6 RX4 wsX4_step 2 0 46) (hR : KRet K none none m') (hrec_9 : ∀ {m : Mem} {x1 : Int32} {x2 : Int32} {x3 : Int32}, rec_9 m x1 x2 x3 = some m' → AW K 0 9 [(0, q_r 40), (1, q_i x1), (2, q_i x2), (3, q_i x3)] [] m) (hrec_38 : ∀ {m : Mem} {x1 : Int32} {x2 : Int32} {x3 : Int32} {x4 : Int32} {x5 : Int32}, rec_38 m x1 x2 x3 x4 x5 = some m' → AW K 0 38 [(0, q_r 40), (1, q_i x1), (2, q_i x2), (3, q_i x3), (4, q_i x4), (5, q_i x5)] [] m) {m : Mem} {x1 : Int32} {x2 : Int32} {x3 : Int32} {x4 : Int32} {x5 : Int32} (hF : B_X4_step_98 N rec_9 rec_38 m x1 x2 x3 x4 x5 = some m') : AW K 0 98 [(0, q_r 40), (1, q_i x1), (2, q_i x2), (3, q_i x3), (4, q_i x4), (5, q_i x5)] [] m := by
  unfold B_X4_step_98 at hF
  refine aw_aload_n hK 0 rfl dX4_step_98 ?_
  refine gf_4_7 hK rfl (44) rfl (List.mem_of_getElem? (i := 6) rfl) dX4_step_99 ?_
  refine aw_iload hK 5 rfl dX4_step_102 ?_
  obtain ⟨g15, hF⟩ := gd_some hF
  refine aw_iald hK rfl g15 dX4_step_104 ?_
  refine aw_iload_n hK 2 rfl dX4_step_105 ?_
  refine aw_icmp_ne hK 145 rfl dX4_step_106 (fun hc => ?_) (fun hc => ?_)
  · have hF := if_f hF hc
    refine aw_sub [0, 1, 2, 3, 4, 5] (lv' := [(0, q_r 40), (1, q_i x1), (2, q_i x2), (3, q_i x3), (4, q_i x4), (5, q_i x5)]) rfl ?_
    exact bk_X4_step_145 hK hR hrec_9 hrec_38 hF
  · have hF := if_t hF hc
    refine aw_aload_n hK 0 rfl dX4_step_109 ?_
    refine aw_iload hK 5 rfl dX4_step_110 ?_
    refine aw_iload hK 4 rfl dX4_step_112 ?_
    refine aw_iload_n hK 3 rfl dX4_step_114 ?_
    obtain ⟨r18, m17, h16, hF⟩ := cal_some hF
    refine aw_cv hK 4 (as := [q_i x5, q_i x4, q_i x3]) (tr_X4_isWayReading h16) gX4_step_X4_isWayReading rfl rfl rfl (by decide) (na := 3) (by decide +kernel) rfl ⟨by decide, by decide⟩ (Nat.zero_le _) (Nat.le_of_ble_eq_true rfl) dX4_step_115 ?_
    refine aw_if_eq hK 145 rfl dX4_step_118 (fun hc => ?_) (fun hc => ?_)
    · have hF := if_t hF hc
      refine aw_sub [0, 1, 2, 3, 4, 5] (lv' := [(0, q_r 40), (1, q_i x1), (2, q_i x2), (3, q_i x3), (4, q_i x4), (5, q_i x5)]) rfl ?_
      exact bk_X4_step_145 hK hR hrec_9 hrec_38 hF
    · have hF := if_f hF hc
      refine aw_aload_n hK 0 rfl dX4_step_121 ?_
      refine gf_4_10 hK rfl (47) rfl (List.mem_of_getElem? (i := 2) rfl) dX4_step_122 ?_
      refine aw_iload hK 4 rfl dX4_step_125 ?_
      refine aw_bipush hK (9) rfl dX4_step_127 ?_
      refine aw_iadd hK dX4_step_129 ?_
      refine aw_iconst hK (1) rfl dX4_step_130 ?_
      refine aw_iadd hK dX4_step_131 ?_
      refine aw_dup2 hK rfl rfl dX4_step_132 ?_
      obtain ⟨g19, hF⟩ := gd_some hF
      refine aw_iald hK rfl g19 dX4_step_133 ?_
      refine aw_iconst hK (1) rfl dX4_step_134 ?_
      refine aw_aload_n hK 0 rfl dX4_step_135 ?_
      refine gf_4_8 hK rfl (45) rfl (List.mem_of_getElem? (i := 7) rfl) dX4_step_136 ?_
      refine aw_iload hK 5 rfl dX4_step_139 ?_
      obtain ⟨g20, hF⟩ := gd_some hF
      refine aw_iald hK rfl g20 dX4_step_141 ?_
      refine aw_ishl hK dX4_step_142 ?_
      refine aw_ior hK dX4_step_143 ?_
      obtain ⟨g21, hF⟩ := gd_some hF
      refine aw_iast hK rfl g21 dX4_step_144 ?_
      obtain ⟨m22, hm22, hF⟩ := bnd_some hF
      refine aw_mm hm22 ?_
      refine aw_sub [0, 1, 2, 3, 4, 5] (lv' := [(0, q_r 40), (1, q_i x1), (2, q_i x2), (3, q_i x3), (4, q_i x4), (5, q_i x5)]) rfl ?_
      exact bk_X4_step_145 hK hR hrec_9 hrec_38 hF
def S_X4_step_38 (N : Nat) (rec_9 : Mem → Int32 → Int32 → Int32 → Option Mem) (rec_38 : Mem → Int32 → Int32 → Int32 → Int32 → Int32 → Option Mem) (m : Mem) (x1 : Int32) (x2 : Int32) (x3 : Int32) (x4 : Int32) (x5 : Int32) : Option Mem :=
  bnd (ix (m 40 2)) fun q5 => gd (knd q5 == 3) <|
  if (m (q5 + 1) 2) ≤ x5 then (
    B_X4_step_151 N rec_9 m x1 x2 x3
  ) else (
    gd (inb x5 (alen 44)) <|
    if (m 44 (ix x5)) = x2 then (
      cal (F_X4_isWayStaying N m x5 x4 x3) fun r10 m9 =>
      if r10 = (0 : Int32) then (
        B_X4_step_98 N rec_9 rec_38 m9 x1 x2 x3 x4 x5
      ) else (
        gd (inb (x4 + (9 : Int32)) (alen 47)) <|
        gd (inb x5 (alen 45)) <|
        gd (inb (x4 + (9 : Int32)) (alen 47)) <|
        bnd (mup m9 47 (ix (x4 + (9 : Int32))) ((m9 47 (ix (x4 + (9 : Int32)))) ||| (q_shl (1 : Int32) (m9 45 (ix x5))))) fun m14 =>
        B_X4_step_98 N rec_9 rec_38 m14 x1 x2 x3 x4 x5
      )
    ) else (
      B_X4_step_98 N rec_9 rec_38 m x1 x2 x3 x4 x5
    )
  )
def L_X4_step_38 (N : Nat) (rec_9 : Mem → Int32 → Int32 → Int32 → Option Mem) : Nat → Mem → Int32 → Int32 → Int32 → Int32 → Int32 → Option Mem
  | 0 => fun _ _ _ _ _ _ => none
  | f + 1 => S_X4_step_38 N rec_9 (L_X4_step_38 N rec_9 f)
set_option maxRecDepth 100000 in
set_option maxHeartbeats 4000000 in
theorem lp_X4_step_38 {N : Nat} {K : KT} {m' : Mem} {rec_9 : Mem → Int32 → Int32 → Int32 → Option Mem} (hK : KOK K cX4_step 6 RX4 wsX4_step 2 0 46) (hR : KRet K none none m') (hrec_9 : ∀ {m : Mem} {x1 : Int32} {x2 : Int32} {x3 : Int32}, rec_9 m x1 x2 x3 = some m' → AW K 0 9 [(0, q_r 40), (1, q_i x1), (2, q_i x2), (3, q_i x3)] [] m) : ∀ (f : Nat) {m : Mem} {x1 : Int32} {x2 : Int32} {x3 : Int32} {x4 : Int32} {x5 : Int32}, L_X4_step_38 N rec_9 f m x1 x2 x3 x4 x5 = some m' → AW K 0 38 [(0, q_r 40), (1, q_i x1), (2, q_i x2), (3, q_i x3), (4, q_i x4), (5, q_i x5)] [] m := by
  intro f
  induction f with
  | zero => intro m x1 x2 x3 x4 x5 hF; cases hF
  | succ f hrec_38 =>
    intro m x1 x2 x3 x4 x5 hF
    have hF : S_X4_step_38 N rec_9 (L_X4_step_38 N rec_9 f) m x1 x2 x3 x4 x5 = some m' := hF
    unfold S_X4_step_38 at hF
    refine aw_iload hK 5 rfl dX4_step_38 ?_
    refine aw_aload_n hK 0 rfl dX4_step_40 ?_
    refine gf_4_2 hK rfl (List.mem_of_getElem? (i := 3) rfl) dX4_step_41 ?_
    obtain ⟨q5, hq5, hF⟩ := bnd_some hF
    obtain ⟨g6, hF⟩ := gd_some hF
    refine aw_nr hq5 ?_
    refine gf_3_0 hK (eq_of_beq g6) (q5 + 1) rfl (List.mem_of_getElem? (i := 4) rfl) dX4_step_44 ?_
    refine gf_0_2 hK (kM1 (eq_of_beq g6)) (List.mem_of_getElem? (i := 5) rfl) dX4_step_47 ?_
    refine aw_icmp_ge hK 151 rfl dX4_step_50 (fun hc => ?_) (fun hc => ?_)
    · have hF := if_t hF hc
      refine aw_sub [0, 1, 2, 3] (lv' := [(0, q_r 40), (1, q_i x1), (2, q_i x2), (3, q_i x3)]) rfl ?_
      exact bk_X4_step_151 hK hR hrec_9 hF
    · have hF := if_f hF hc
      refine aw_aload_n hK 0 rfl dX4_step_53 ?_
      refine gf_4_7 hK rfl (44) rfl (List.mem_of_getElem? (i := 6) rfl) dX4_step_54 ?_
      refine aw_iload hK 5 rfl dX4_step_57 ?_
      obtain ⟨g7, hF⟩ := gd_some hF
      refine aw_iald hK rfl g7 dX4_step_59 ?_
      refine aw_iload_n hK 2 rfl dX4_step_60 ?_
      refine aw_icmp_ne hK 98 rfl dX4_step_61 (fun hc => ?_) (fun hc => ?_)
      · have hF := if_f hF hc
        refine aw_sub [0, 1, 2, 3, 4, 5] (lv' := [(0, q_r 40), (1, q_i x1), (2, q_i x2), (3, q_i x3), (4, q_i x4), (5, q_i x5)]) rfl ?_
        exact bk_X4_step_98 hK hR hrec_9 hrec_38 hF
      · have hF := if_t hF hc
        refine aw_aload_n hK 0 rfl dX4_step_64 ?_
        refine aw_iload hK 5 rfl dX4_step_65 ?_
        refine aw_iload hK 4 rfl dX4_step_67 ?_
        refine aw_iload_n hK 3 rfl dX4_step_69 ?_
        obtain ⟨r10, m9, h8, hF⟩ := cal_some hF
        refine aw_cv hK 4 (as := [q_i x5, q_i x4, q_i x3]) (tr_X4_isWayStaying h8) gX4_step_X4_isWayStaying rfl rfl rfl (by decide) (na := 3) (by decide +kernel) rfl ⟨by decide, by decide⟩ (Nat.zero_le _) (Nat.le_of_ble_eq_true rfl) dX4_step_70 ?_
        refine aw_if_eq hK 98 rfl dX4_step_73 (fun hc => ?_) (fun hc => ?_)
        · have hF := if_t hF hc
          refine aw_sub [0, 1, 2, 3, 4, 5] (lv' := [(0, q_r 40), (1, q_i x1), (2, q_i x2), (3, q_i x3), (4, q_i x4), (5, q_i x5)]) rfl ?_
          exact bk_X4_step_98 hK hR hrec_9 hrec_38 hF
        · have hF := if_f hF hc
          refine aw_aload_n hK 0 rfl dX4_step_76 ?_
          refine gf_4_10 hK rfl (47) rfl (List.mem_of_getElem? (i := 2) rfl) dX4_step_77 ?_
          refine aw_iload hK 4 rfl dX4_step_80 ?_
          refine aw_bipush hK (9) rfl dX4_step_82 ?_
          refine aw_iadd hK dX4_step_84 ?_
          refine aw_dup2 hK rfl rfl dX4_step_85 ?_
          obtain ⟨g11, hF⟩ := gd_some hF
          refine aw_iald hK rfl g11 dX4_step_86 ?_
          refine aw_iconst hK (1) rfl dX4_step_87 ?_
          refine aw_aload_n hK 0 rfl dX4_step_88 ?_
          refine gf_4_8 hK rfl (45) rfl (List.mem_of_getElem? (i := 7) rfl) dX4_step_89 ?_
          refine aw_iload hK 5 rfl dX4_step_92 ?_
          obtain ⟨g12, hF⟩ := gd_some hF
          refine aw_iald hK rfl g12 dX4_step_94 ?_
          refine aw_ishl hK dX4_step_95 ?_
          refine aw_ior hK dX4_step_96 ?_
          obtain ⟨g13, hF⟩ := gd_some hF
          refine aw_iast hK rfl g13 dX4_step_97 ?_
          obtain ⟨m14, hm14, hF⟩ := bnd_some hF
          refine aw_mm hm14 ?_
          refine aw_sub [0, 1, 2, 3, 4, 5] (lv' := [(0, q_r 40), (1, q_i x1), (2, q_i x2), (3, q_i x3), (4, q_i x4), (5, q_i x5)]) rfl ?_
          exact bk_X4_step_98 hK hR hrec_9 hrec_38 hF
def S_X4_step_9 (N : Nat) (rec_9 : Mem → Int32 → Int32 → Int32 → Option Mem) (m : Mem) (x1 : Int32) (x2 : Int32) (x3 : Int32) : Option Mem :=
  if (m 40 1) < x3 then (
    some m
  ) else (
    bnd ((x1 * (9 : Int32)) + x3) fun y3 =>
    gd (inb y3 (alen 47)) <|
    if (m 47 (ix y3)) = (0 : Int32) then (
      B_X4_step_151 N rec_9 m x1 x2 x3
    ) else (
      L_X4_step_38 N rec_9 N m x1 x2 x3 y3 (0 : Int32)
    )
  )
def L_X4_step_9 (N : Nat) : Nat → Mem → Int32 → Int32 → Int32 → Option Mem
  | 0 => fun _ _ _ _ => none
  | f + 1 => S_X4_step_9 N (L_X4_step_9 N f)
set_option maxRecDepth 100000 in
set_option maxHeartbeats 4000000 in
theorem lp_X4_step_9 {N : Nat} {K : KT} {m' : Mem} (hK : KOK K cX4_step 6 RX4 wsX4_step 2 0 46) (hR : KRet K none none m') : ∀ (f : Nat) {m : Mem} {x1 : Int32} {x2 : Int32} {x3 : Int32}, L_X4_step_9 N f m x1 x2 x3 = some m' → AW K 0 9 [(0, q_r 40), (1, q_i x1), (2, q_i x2), (3, q_i x3)] [] m := by
  intro f
  induction f with
  | zero => intro m x1 x2 x3 hF; cases hF
  | succ f hrec_9 =>
    intro m x1 x2 x3 hF
    have hF : S_X4_step_9 N (L_X4_step_9 N f) m x1 x2 x3 = some m' := hF
    unfold S_X4_step_9 at hF
    refine aw_iload_n hK 3 rfl dX4_step_9 ?_
    refine aw_aload_n hK 0 rfl dX4_step_10 ?_
    refine gf_4_1 hK rfl (List.mem_of_getElem? (i := 1) rfl) dX4_step_11 ?_
    refine aw_icmp_gt hK 157 rfl dX4_step_14 (fun hc => ?_) (fun hc => ?_)
    · have hF := if_t hF hc
      obtain rfl := Option.some.inj hF
      exact aw_vret hK hR dX4_step_157
    · have hF := if_f hF hc
      refine aw_iload_n hK 1 rfl dX4_step_17 ?_
      refine aw_bipush hK (9) rfl dX4_step_18 ?_
      refine aw_imul hK dX4_step_20 ?_
      refine aw_iload_n hK 3 rfl dX4_step_21 ?_
      refine aw_iadd hK dX4_step_22 ?_
      obtain ⟨y3, hy3, hF⟩ := bnd_some hF
      refine aw_nm hy3 ?_
      refine aw_istore hK [(4, q_i y3), (0, q_r 40), (1, q_i x1), (2, q_i x2), (3, q_i x3)] (by decide) rfl dX4_step_23 ?_
      refine aw_aload_n hK 1 rfl dX4_step_25 ?_
      refine gf_4_10 hK rfl (47) rfl (List.mem_of_getElem? (i := 2) rfl) dX4_step_26 ?_
      refine aw_iload hK 0 rfl dX4_step_29 ?_
      obtain ⟨g4, hF⟩ := gd_some hF
      refine aw_iald hK rfl g4 dX4_step_31 ?_
      refine aw_if_eq hK 151 rfl dX4_step_32 (fun hc => ?_) (fun hc => ?_)
      · have hF := if_t hF hc
        refine aw_sub [1, 2, 3, 4] (lv' := [(0, q_r 40), (1, q_i x1), (2, q_i x2), (3, q_i x3)]) rfl ?_
        exact bk_X4_step_151 hK hR hrec_9 hF
      · have hF := if_f hF hc
        refine aw_iconst hK (0) rfl dX4_step_35 ?_
        refine aw_istore hK [(5, q_i (0 : Int32)), (4, q_i y3), (0, q_r 40), (1, q_i x1), (2, q_i x2), (3, q_i x3)] (by decide) rfl dX4_step_36 ?_
        refine aw_sub [2, 3, 4, 5, 1, 0] (lv' := [(0, q_r 40), (1, q_i x1), (2, q_i x2), (3, q_i x3), (4, q_i y3), (5, q_i (0 : Int32))]) rfl ?_
        exact lp_X4_step_38 hK hR hrec_9 _ hF
def F_X4_step (N : Nat) (m : Mem) (x1 : Int32) (x2 : Int32) : Option Mem :=
  calv (F_X4_clearSets N m (x1 + (1 : Int32))) fun m2 =>
  L_X4_step_9 N N m2 x1 x2 (0 : Int32)
set_option maxRecDepth 100000 in
set_option maxHeartbeats 4000000 in
theorem tr_X4_step {N : Nat} {m m' : Mem} {x1 : Int32} {x2 : Int32} (hF : F_X4_step N m x1 x2 = some m') : Tr yX4_step wsX4_step 2 46 [q_r 40, q_i x1, q_i x2] m none m' := by
  refine tr_of (bytes := cX4_step) (maxL := 6) (ret := none) (by decide) rfl (Nat.le_of_ble_eq_true rfl) (fun K hK hR => ?_)
  have hK : KOK K cX4_step 6 RX4 wsX4_step 2 0 46 := hK
  show AW K 0 0 [(0, q_r 40), (1, q_i x1), (2, q_i x2)] [] m
  unfold F_X4_step at hF
  refine aw_aload_n hK 0 rfl dX4_step_0 ?_
  refine aw_iload_n hK 1 rfl dX4_step_1 ?_
  refine aw_iconst hK (1) rfl dX4_step_2 ?_
  refine aw_iadd hK dX4_step_3 ?_
  obtain ⟨m2, h1, hF⟩ := calv_some hF
  refine aw_cv hK 4 (as := [q_i (x1 + (1 : Int32))]) (tr_X4_clearSets h1) gX4_step_X4_clearSets rfl rfl rfl (by decide) (na := 1) (by decide +kernel) rfl ⟨by decide, by decide⟩ (Nat.zero_le _) (Nat.le_of_ble_eq_true rfl) dX4_step_4 ?_
  refine aw_iconst hK (0) rfl dX4_step_7 ?_
  refine aw_istore_n hK [(3, q_i (0 : Int32)), (0, q_r 40), (1, q_i x1), (2, q_i x2)] (by decide) rfl dX4_step_8 ?_
  refine aw_sub [1, 2, 3, 0] (lv' := [(0, q_r 40), (1, q_i x1), (2, q_i x2), (3, q_i (0 : Int32))]) rfl ?_
  exact lp_X4_step_9 hK hR _ hF
def B_X4_find_167 (N : Nat) (m : Mem) (x3 : Int32) : Option (Int32 × Mem) :=
  some (x3, m)
set_option maxRecDepth 100000 in
set_option maxHeartbeats 4000000 in
theorem bk_X4_find_167 {N : Nat} {K : KT} {m' : Mem} {r : Int32} (hK : KOK K cX4_find 7 RX4 wsX4_find 4 0 93) (hR : KRet K (some .int) (some r) m') {m : Mem} {x3 : Int32} (hF : B_X4_find_167 N m x3 = some (r, m')) : AW K 0 167 [(3, q_i x3)] [] m := by
  unfold B_X4_find_167 at hF
  refine aw_iload_n hK 0 rfl dX4_find_167 ?_
  obtain ⟨rfl, rfl⟩ := so_inj hF
  exact aw_iret hK hR rfl dX4_find_168
def B_X4_find_161 (N : Nat) (rec_55 : Mem → Int32 → Int32 → Int32 → Int32 → Option (Int32 × Mem)) (m : Mem) (x1 : Int32) (x3 : Int32) (x4 : Int32) (x5 : Int32) : Option (Int32 × Mem) :=
  bnd (x5 + (1 : Int32)) fun y29 =>
  rec_55 m x1 x3 x4 y29
set_option maxRecDepth 100000 in
set_option maxHeartbeats 4000000 in
theorem bk_X4_find_161 {N : Nat} {K : KT} {m' : Mem} {rec_55 : Mem → Int32 → Int32 → Int32 → Int32 → Option (Int32 × Mem)} {r : Int32} (hK : KOK K cX4_find 7 RX4 wsX4_find 4 0 93) (hR : KRet K (some .int) (some r) m') (hrec_55 : ∀ {m : Mem} {x1 : Int32} {x3 : Int32} {x4 : Int32} {x5 : Int32}, rec_55 m x1 x3 x4 x5 = some (r, m') → AW K 0 55 [(0, q_r 40), (1, q_i x1), (3, q_i x3), (4, q_i x4), (5, q_i x5)] [] m) {m : Mem} {x1 : Int32} {x3 : Int32} {x4 : Int32} {x5 : Int32} (hF : B_X4_find_161 N rec_55 m x1 x3 x4 x5 = some (r, m')) : AW K 0 161 [(0, q_r 40), (1, q_i x1), (3, q_i x3), (4, q_i x4), (5, q_i x5)] [] m := by
  unfold B_X4_find_161 at hF
  obtain ⟨y29, hy29, hF⟩ := bnd_some hF
  refine aw_iinc hK (cz := 1) 4 [(5, q_i y29), (0, q_r 40), (1, q_i x1), (3, q_i x3), (4, q_i x4)] (by decide) rfl rfl hy29 rfl dX4_find_161 ?_
  refine aw_goto hK 55 rfl dX4_find_164 ?_
  refine aw_sub [1, 2, 3, 4, 0] (lv' := [(0, q_r 40), (1, q_i x1), (3, q_i x3), (4, q_i x4), (5, q_i y29)]) rfl ?_
  exact hrec_55 hF
def B_X4_find_101 (N : Nat) (rec_55 : Mem → Int32 → Int32 → Int32 → Int32 → Option (Int32 × Mem)) (m : Mem) (x1 : Int32) (x3 : Int32) (x4 : Int32) (x5 : Int32) : Option (Int32 × Mem) :=
  bnd (x4 + (-1 : Int32)) fun y30 =>
  B_X4_find_161 N rec_55 m x1 x3 y30 x5
set_option maxRecDepth 100000 in
set_option maxHeartbeats 4000000 in
theorem bk_X4_find_101 {N : Nat} {K : KT} {m' : Mem} {rec_55 : Mem → Int32 → Int32 → Int32 → Int32 → Option (Int32 × Mem)} {r : Int32} (hK : KOK K cX4_find 7 RX4 wsX4_find 4 0 93) (hR : KRet K (some .int) (some r) m') (hrec_55 : ∀ {m : Mem} {x1 : Int32} {x3 : Int32} {x4 : Int32} {x5 : Int32}, rec_55 m x1 x3 x4 x5 = some (r, m') → AW K 0 55 [(0, q_r 40), (1, q_i x1), (3, q_i x3), (4, q_i x4), (5, q_i x5)] [] m) {m : Mem} {x1 : Int32} {x3 : Int32} {x4 : Int32} {x5 : Int32} (hF : B_X4_find_101 N rec_55 m x1 x3 x4 x5 = some (r, m')) : AW K 0 101 [(0, q_r 40), (1, q_i x1), (3, q_i x3), (4, q_i x4), (5, q_i x5)] [] m := by
  unfold B_X4_find_101 at hF
  obtain ⟨y30, hy30, hF⟩ := bnd_some hF
  refine aw_iinc hK (cz := -1) 3 [(4, q_i y30), (0, q_r 40), (1, q_i x1), (3, q_i x3), (5, q_i x5)] (by decide) rfl rfl hy30 rfl dX4_find_101 ?_
  refine aw_goto hK 161 rfl dX4_find_104 ?_
  refine aw_sub [1, 2, 3, 0, 4] (lv' := [(0, q_r 40), (1, q_i x1), (3, q_i x3), (4, q_i y30), (5, q_i x5)]) rfl ?_
  exact bk_X4_find_161 hK hR hrec_55 hF
def S_X4_find_55 (N : Nat) (rec_55 : Mem → Int32 → Int32 → Int32 → Int32 → Option (Int32 × Mem)) (m : Mem) (x1 : Int32) (x3 : Int32) (x4 : Int32) (x5 : Int32) : Option (Int32 × Mem) :=
  if x1 ≤ x3 then (
    B_X4_find_167 N m x3
  ) else (
    if x4 < (0 : Int32) then (
      B_X4_find_167 N m x3
    ) else (
      if (11560 : Int32) ≤ x5 then (
        B_X4_find_167 N m x3
      ) else (
        gd (inb x4 (alen 48)) <|
        cal (F_X4_lowestIn N m (m 48 (ix x4))) fun r15 m14 =>
        if r15 = (-1 : Int32) then (
          B_X4_find_101 N rec_55 m14 x1 x3 x4 x5
        ) else (
          if (x4 + (1 : Int32)) < (288 : Int32) then (
            gd (inb x4 (alen 48)) <|
            gd (inb x4 (alen 48)) <|
            bnd (mup m14 48 (ix x4) ((m14 48 (ix x4)) &&& ((q_shl (1 : Int32) r15) ^^^ (-1 : Int32)))) fun m18 =>
            gd (inb x4 (alen 49)) <|
            bnd (mup m18 49 (ix x4) r15) fun m20 =>
            calv (F_X4_step N m20 x4 r15) fun m22 =>
            bnd (x4 + (1 : Int32)) fun y23 =>
            cal (F_X4_enter N m22 y23) fun r26 m25 =>
            if r26 = (0 : Int32) then (
              B_X4_find_161 N rec_55 m25 x1 x3 y23 x5
            ) else (
              bnd (x3 + (1 : Int32)) fun y27 =>
              bnd (mup m25 40 13 y23) fun m28 =>
              B_X4_find_161 N rec_55 m28 x1 y27 y23 x5
            )
          ) else (
            B_X4_find_101 N rec_55 m14 x1 x3 x4 x5
          )
        )
      )
    )
  )
def L_X4_find_55 (N : Nat) : Nat → Mem → Int32 → Int32 → Int32 → Int32 → Option (Int32 × Mem)
  | 0 => fun _ _ _ _ _ => none
  | f + 1 => S_X4_find_55 N (L_X4_find_55 N f)
set_option maxRecDepth 100000 in
set_option maxHeartbeats 4000000 in
theorem lp_X4_find_55 {N : Nat} {K : KT} {m' : Mem} {r : Int32} (hK : KOK K cX4_find 7 RX4 wsX4_find 4 0 93) (hR : KRet K (some .int) (some r) m') : ∀ (f : Nat) {m : Mem} {x1 : Int32} {x3 : Int32} {x4 : Int32} {x5 : Int32}, L_X4_find_55 N f m x1 x3 x4 x5 = some (r, m') → AW K 0 55 [(0, q_r 40), (1, q_i x1), (3, q_i x3), (4, q_i x4), (5, q_i x5)] [] m := by
  intro f
  induction f with
  | zero => intro m x1 x3 x4 x5 hF; cases hF
  | succ f hrec_55 =>
    intro m x1 x3 x4 x5 hF
    have hF : S_X4_find_55 N (L_X4_find_55 N f) m x1 x3 x4 x5 = some (r, m') := hF
    unfold S_X4_find_55 at hF
    refine aw_iload_n hK 2 rfl dX4_find_55 ?_
    refine aw_iload_n hK 1 rfl dX4_find_56 ?_
    refine aw_icmp_ge hK 167 rfl dX4_find_57 (fun hc => ?_) (fun hc => ?_)
    · have hF := if_t hF hc
      refine aw_sub [2] (lv' := [(3, q_i x3)]) rfl ?_
      exact bk_X4_find_167 hK hR hF
    · have hF := if_f hF hc
      refine aw_iload hK 3 rfl dX4_find_60 ?_
      refine aw_if_lt hK 167 rfl dX4_find_62 (fun hc => ?_) (fun hc => ?_)
      · have hF := if_t hF hc
        refine aw_sub [2] (lv' := [(3, q_i x3)]) rfl ?_
        exact bk_X4_find_167 hK hR hF
      · have hF := if_f hF hc
        refine aw_iload hK 4 rfl dX4_find_65 ?_
        refine aw_sipush hK (11560) rfl dX4_find_67 ?_
        refine aw_icmp_ge hK 167 rfl dX4_find_70 (fun hc => ?_) (fun hc => ?_)
        · have hF := if_t hF hc
          refine aw_sub [2] (lv' := [(3, q_i x3)]) rfl ?_
          exact bk_X4_find_167 hK hR hF
        · have hF := if_f hF hc
          refine aw_aload_n hK 0 rfl dX4_find_73 ?_
          refine gf_4_11 hK rfl (48) rfl (List.mem_of_getElem? (i := 6) rfl) dX4_find_74 ?_
          refine aw_iload hK 3 rfl dX4_find_77 ?_
          obtain ⟨g12, hF⟩ := gd_some hF
          refine aw_iald hK rfl g12 dX4_find_79 ?_
          obtain ⟨r15, m14, h13, hF⟩ := cal_some hF
          refine aw_cs hK (as := [q_i (m 48 (ix x4))]) (tr_X4_lowestIn h13) gX4_find_X4_lowestIn rfl (na := 1) (by decide +kernel) rfl ⟨by decide, by decide⟩ (Nat.zero_le _) (Nat.le_of_ble_eq_true rfl) dX4_find_80 ?_
          refine aw_istore hK [(6, q_i r15), (0, q_r 40), (1, q_i x1), (3, q_i x3), (4, q_i x4), (5, q_i x5)] (by decide) rfl dX4_find_83 ?_
          refine aw_iload hK 0 rfl dX4_find_85 ?_
          refine aw_iconst hK (-1) rfl dX4_find_87 ?_
          refine aw_icmp_eq hK 101 rfl dX4_find_88 (fun hc => ?_) (fun hc => ?_)
          · have hF := if_t hF hc
            refine aw_sub [1, 2, 3, 4, 5] (lv' := [(0, q_r 40), (1, q_i x1), (3, q_i x3), (4, q_i x4), (5, q_i x5)]) rfl ?_
            exact bk_X4_find_101 hK hR hrec_55 hF
          · have hF := if_f hF hc
            refine aw_iload hK 4 rfl dX4_find_91 ?_
            refine aw_iconst hK (1) rfl dX4_find_93 ?_
            refine aw_iadd hK dX4_find_94 ?_
            refine aw_sipush hK (288) rfl dX4_find_95 ?_
            refine aw_icmp_lt hK 107 rfl dX4_find_98 (fun hc => ?_) (fun hc => ?_)
            · have hF := if_t hF hc
              refine aw_aload_n hK 1 rfl dX4_find_107 ?_
              refine gf_4_11 hK rfl (48) rfl (List.mem_of_getElem? (i := 6) rfl) dX4_find_108 ?_
              refine aw_iload hK 4 rfl dX4_find_111 ?_
              refine aw_dup2 hK rfl rfl dX4_find_113 ?_
              obtain ⟨g16, hF⟩ := gd_some hF
              refine aw_iald hK rfl g16 dX4_find_114 ?_
              refine aw_iconst hK (1) rfl dX4_find_115 ?_
              refine aw_iload hK 0 rfl dX4_find_116 ?_
              refine aw_ishl hK dX4_find_118 ?_
              refine aw_iconst hK (-1) rfl dX4_find_119 ?_
              refine aw_ixor hK dX4_find_120 ?_
              refine aw_iand hK dX4_find_121 ?_
              obtain ⟨g17, hF⟩ := gd_some hF
              refine aw_iast hK rfl g17 dX4_find_122 ?_
              obtain ⟨m18, hm18, hF⟩ := bnd_some hF
              refine aw_mm hm18 ?_
              refine aw_aload_n hK 1 rfl dX4_find_123 ?_
              refine gf_4_12 hK rfl (49) rfl (List.mem_of_getElem? (i := 7) rfl) dX4_find_124 ?_
              refine aw_iload hK 4 rfl dX4_find_127 ?_
              refine aw_iload hK 0 rfl dX4_find_129 ?_
              obtain ⟨g19, hF⟩ := gd_some hF
              refine aw_iast hK rfl g19 dX4_find_131 ?_
              obtain ⟨m20, hm20, hF⟩ := bnd_some hF
              refine aw_mm hm20 ?_
              refine aw_aload_n hK 1 rfl dX4_find_132 ?_
              refine aw_iload hK 4 rfl dX4_find_133 ?_
              refine aw_iload hK 0 rfl dX4_find_135 ?_
              obtain ⟨m22, h21, hF⟩ := calv_some hF
              refine aw_cv hK 4 (as := [q_i x4, q_i r15]) (tr_X4_step h21) gX4_find_X4_step rfl rfl rfl (by decide) (na := 2) (by decide +kernel) rfl ⟨by decide, by decide⟩ (Nat.zero_le _) (Nat.le_of_ble_eq_true rfl) dX4_find_137 ?_
              obtain ⟨y23, hy23, hF⟩ := bnd_some hF
              refine aw_iinc hK (cz := 1) 4 [(4, q_i y23), (6, q_i r15), (0, q_r 40), (1, q_i x1), (3, q_i x3), (5, q_i x5)] (by decide) rfl rfl hy23 rfl dX4_find_140 ?_
              refine aw_aload_n hK 2 rfl dX4_find_143 ?_
              refine aw_iload hK 0 rfl dX4_find_144 ?_
              obtain ⟨r26, m25, h24, hF⟩ := cal_some hF
              refine aw_cv hK 4 (as := [q_i y23]) (tr_X4_enter h24) gX4_find_X4_enter rfl rfl rfl (by decide) (na := 1) (by decide +kernel) rfl ⟨by decide, by decide⟩ (Nat.zero_le _) (Nat.le_of_ble_eq_true rfl) dX4_find_146 ?_
              refine aw_if_eq hK 161 rfl dX4_find_149 (fun hc => ?_) (fun hc => ?_)
              · have hF := if_t hF hc
                refine aw_sub [2, 3, 4, 0, 5] (lv' := [(0, q_r 40), (1, q_i x1), (3, q_i x3), (4, q_i y23), (5, q_i x5)]) rfl ?_
                exact bk_X4_find_161 hK hR hrec_55 hF
              · have hF := if_f hF hc
                obtain ⟨y27, hy27, hF⟩ := bnd_some hF
                refine aw_iinc hK (cz := 1) 4 [(3, q_i y27), (4, q_i y23), (6, q_i r15), (0, q_r 40), (1, q_i x1), (5, q_i x5)] (by decide) rfl rfl hy27 rfl dX4_find_152 ?_
                refine aw_aload_n hK 3 rfl dX4_find_155 ?_
                refine aw_iload hK 1 rfl dX4_find_156 ?_
                refine pf_4_13 hK rfl (List.mem_of_getElem? (i := 2) rfl) dX4_find_158 ?_
                obtain ⟨m28, hm28, hF⟩ := bnd_some hF
                refine aw_mm hm28 ?_
                refine aw_sub [3, 4, 0, 1, 5] (lv' := [(0, q_r 40), (1, q_i x1), (3, q_i y27), (4, q_i y23), (5, q_i x5)]) rfl ?_
                exact bk_X4_find_161 hK hR hrec_55 hF
            · have hF := if_f hF hc
              refine aw_sub [1, 2, 3, 4, 5] (lv' := [(0, q_r 40), (1, q_i x1), (3, q_i x3), (4, q_i x4), (5, q_i x5)]) rfl ?_
              exact bk_X4_find_101 hK hR hrec_55 hF
def B_X4_find_48 (N : Nat) (m : Mem) (x1 : Int32) (s0 : Int32) : Option (Int32 × Mem) :=
  L_X4_find_55 N N m x1 s0 (0 : Int32) (0 : Int32)
set_option maxRecDepth 100000 in
set_option maxHeartbeats 4000000 in
theorem bk_X4_find_48 {N : Nat} {K : KT} {m' : Mem} {r : Int32} (hK : KOK K cX4_find 7 RX4 wsX4_find 4 0 93) (hR : KRet K (some .int) (some r) m') {m : Mem} {x1 : Int32} {s0 : Int32} (hF : B_X4_find_48 N m x1 s0 = some (r, m')) : AW K 0 48 [(0, q_r 40), (1, q_i x1)] [q_i s0] m := by
  unfold B_X4_find_48 at hF
  refine aw_istore_n hK [(3, q_i s0), (0, q_r 40), (1, q_i x1)] (by decide) rfl dX4_find_48 ?_
  refine aw_iconst hK (0) rfl dX4_find_49 ?_
  refine aw_istore hK [(4, q_i (0 : Int32)), (3, q_i s0), (0, q_r 40), (1, q_i x1)] (by decide) rfl dX4_find_50 ?_
  refine aw_iconst hK (0) rfl dX4_find_52 ?_
  refine aw_istore hK [(5, q_i (0 : Int32)), (4, q_i (0 : Int32)), (3, q_i s0), (0, q_r 40), (1, q_i x1)] (by decide) rfl dX4_find_53 ?_
  refine aw_sub [3, 4, 2, 1, 0] (lv' := [(0, q_r 40), (1, q_i x1), (3, q_i s0), (4, q_i (0 : Int32)), (5, q_i (0 : Int32))]) rfl ?_
  exact lp_X4_find_55 hK hR _ hF
def F_X4_find (N : Nat) (m : Mem) (x1 : Int32) (x2 : Int32) : Option (Int32 × Mem) :=
  gd (isb x2) <|
  bnd (mup m 40 4 x2) fun m2 =>
  bnd (mup m2 40 13 (0 : Int32)) fun m3 =>
  gd (inb (0 : Int32) (alen 46)) <|
  if (m3 46 (ix (0 : Int32))) < (1000000000 : Int32) then (
    calv (F_X4_clearSets N m3 (0 : Int32)) fun m6 =>
    gd (inb (0 : Int32) (alen 47)) <|
    bnd (mup m6 47 (ix (0 : Int32)) (1 : Int32)) fun m8 =>
    cal (F_X4_enter N m8 (0 : Int32)) fun r11 m10 =>
    if r11 = (0 : Int32) then (
      B_X4_find_48 N m10 x1 (0 : Int32)
    ) else (
      B_X4_find_48 N m10 x1 (1 : Int32)
    )
  ) else (
    some ((0 : Int32), m3)
  )
set_option maxRecDepth 100000 in
set_option maxHeartbeats 4000000 in
theorem tr_X4_find {N : Nat} {m m' : Mem} {r : Int32} {x1 : Int32} {x2 : Int32} (hF : F_X4_find N m x1 x2 = some (r, m')) : Tr yX4_find wsX4_find 4 93 [q_r 40, q_i x1, q_i x2] m (some r) m' := by
  refine tr_of (bytes := cX4_find) (maxL := 7) (ret := (some .int)) (by decide) rfl (Nat.le_of_ble_eq_true rfl) (fun K hK hR => ?_)
  have hK : KOK K cX4_find 7 RX4 wsX4_find 4 0 93 := hK
  show AW K 0 0 [(0, q_r 40), (1, q_i x1), (2, q_i x2)] [] m
  unfold F_X4_find at hF
  refine aw_aload_n hK 0 rfl dX4_find_0 ?_
  refine aw_iload_n hK 2 rfl dX4_find_1 ?_
  obtain ⟨g1, hF⟩ := gd_some hF
  refine pf_4_4 hK rfl g1 (List.mem_of_getElem? (i := 1) rfl) dX4_find_2 ?_
  obtain ⟨m2, hm2, hF⟩ := bnd_some hF
  refine aw_mm hm2 ?_
  refine aw_aload_n hK 0 rfl dX4_find_5 ?_
  refine aw_iconst hK (0) rfl dX4_find_6 ?_
  refine pf_4_13 hK rfl (List.mem_of_getElem? (i := 2) rfl) dX4_find_7 ?_
  obtain ⟨m3, hm3, hF⟩ := bnd_some hF
  refine aw_mm hm3 ?_
  refine aw_aload_n hK 0 rfl dX4_find_10 ?_
  refine gf_4_9 hK rfl (46) rfl (List.mem_of_getElem? (i := 3) rfl) dX4_find_11 ?_
  refine aw_iconst hK (0) rfl dX4_find_14 ?_
  obtain ⟨g4, hF⟩ := gd_some hF
  refine aw_iald hK rfl g4 dX4_find_15 ?_
  refine aw_ldc hK (1000000000) (List.mem_of_getElem? (i := 4) rfl) dX4_find_16 ?_
  refine aw_icmp_lt hK 23 rfl dX4_find_18 (fun hc => ?_) (fun hc => ?_)
  · have hF := if_t hF hc
    refine aw_aload_n hK 0 rfl dX4_find_23 ?_
    refine aw_iconst hK (0) rfl dX4_find_24 ?_
    obtain ⟨m6, h5, hF⟩ := calv_some hF
    refine aw_cv hK 4 (as := [q_i (0 : Int32)]) (tr_X4_clearSets h5) gX4_find_X4_clearSets rfl rfl rfl (by decide) (na := 1) (by decide +kernel) rfl ⟨by decide, by decide⟩ (Nat.zero_le _) (Nat.le_of_ble_eq_true rfl) dX4_find_25 ?_
    refine aw_aload_n hK 0 rfl dX4_find_28 ?_
    refine gf_4_10 hK rfl (47) rfl (List.mem_of_getElem? (i := 5) rfl) dX4_find_29 ?_
    refine aw_iconst hK (0) rfl dX4_find_32 ?_
    refine aw_iconst hK (1) rfl dX4_find_33 ?_
    obtain ⟨g7, hF⟩ := gd_some hF
    refine aw_iast hK rfl g7 dX4_find_34 ?_
    obtain ⟨m8, hm8, hF⟩ := bnd_some hF
    refine aw_mm hm8 ?_
    refine aw_aload_n hK 0 rfl dX4_find_35 ?_
    refine aw_iconst hK (0) rfl dX4_find_36 ?_
    obtain ⟨r11, m10, h9, hF⟩ := cal_some hF
    refine aw_cv hK 4 (as := [q_i (0 : Int32)]) (tr_X4_enter h9) gX4_find_X4_enter rfl rfl rfl (by decide) (na := 1) (by decide +kernel) rfl ⟨by decide, by decide⟩ (Nat.zero_le _) (Nat.le_of_ble_eq_true rfl) dX4_find_37 ?_
    refine aw_if_eq hK 47 rfl dX4_find_40 (fun hc => ?_) (fun hc => ?_)
    · have hF := if_t hF hc
      refine aw_iconst hK (0) rfl dX4_find_47 ?_
      refine aw_sub [0, 1] (lv' := [(0, q_r 40), (1, q_i x1)]) rfl ?_
      exact bk_X4_find_48 hK hR hF
    · have hF := if_f hF hc
      refine aw_iconst hK (1) rfl dX4_find_43 ?_
      refine aw_goto hK 48 rfl dX4_find_44 ?_
      refine aw_sub [0, 1] (lv' := [(0, q_r 40), (1, q_i x1)]) rfl ?_
      exact bk_X4_find_48 hK hR hF
  · have hF := if_f hF hc
    refine aw_iconst hK (0) rfl dX4_find_21 ?_
    obtain ⟨rfl, rfl⟩ := so_inj hF
    exact aw_iret hK hR rfl dX4_find_22
def B_X4_foundLetter_23 (N : Nat) (m : Mem) (s0 : Int32) : Option (Int32 × Mem) :=
  some (s0, m)
set_option maxRecDepth 100000 in
set_option maxHeartbeats 4000000 in
theorem bk_X4_foundLetter_23 {N : Nat} {K : KT} {m' : Mem} {r : Int32} (hK : KOK K cX4_foundLetter 2 RX4 wsX4_foundLetter 0 0 0) (hR : KRet K (some .int) (some r) m') {m : Mem} {s0 : Int32} (hF : B_X4_foundLetter_23 N m s0 = some (r, m')) : AW K 0 23 [] [q_i s0] m := by
  unfold B_X4_foundLetter_23 at hF
  obtain ⟨rfl, rfl⟩ := so_inj hF
  exact aw_iret hK hR rfl dX4_foundLetter_23
def B_X4_foundLetter_21 (N : Nat) (m : Mem) : Option (Int32 × Mem) :=
  B_X4_foundLetter_23 N m (8 : Int32)
set_option maxRecDepth 100000 in
set_option maxHeartbeats 4000000 in
theorem bk_X4_foundLetter_21 {N : Nat} {K : KT} {m' : Mem} {r : Int32} (hK : KOK K cX4_foundLetter 2 RX4 wsX4_foundLetter 0 0 0) (hR : KRet K (some .int) (some r) m') {m : Mem} (hF : B_X4_foundLetter_21 N m = some (r, m')) : AW K 0 21 [] [] m := by
  unfold B_X4_foundLetter_21 at hF
  refine aw_bipush hK (8) rfl dX4_foundLetter_21 ?_
  refine aw_sub [] (lv' := []) rfl ?_
  exact bk_X4_foundLetter_23 hK hR hF
def F_X4_foundLetter (N : Nat) (m : Mem) (x1 : Int32) : Option (Int32 × Mem) :=
  if x1 < (0 : Int32) then (
    B_X4_foundLetter_21 N m
  ) else (
    if (m 40 13) ≤ x1 then (
      B_X4_foundLetter_21 N m
    ) else (
      gd (inb x1 (alen 49)) <|
      B_X4_foundLetter_23 N m (m 49 (ix x1))
    )
  )
set_option maxRecDepth 100000 in
set_option maxHeartbeats 4000000 in
theorem tr_X4_foundLetter {N : Nat} {m m' : Mem} {r : Int32} {x1 : Int32} (hF : F_X4_foundLetter N m x1 = some (r, m')) : Tr yX4_foundLetter wsX4_foundLetter 0 0 [q_r 40, q_i x1] m (some r) m' := by
  refine tr_of (bytes := cX4_foundLetter) (maxL := 2) (ret := (some .int)) (by decide) rfl (Nat.le_of_ble_eq_true rfl) (fun K hK hR => ?_)
  have hK : KOK K cX4_foundLetter 2 RX4 wsX4_foundLetter 0 0 0 := hK
  show AW K 0 0 [(0, q_r 40), (1, q_i x1)] [] m
  unfold F_X4_foundLetter at hF
  refine aw_iload_n hK 1 rfl dX4_foundLetter_0 ?_
  refine aw_if_lt hK 21 rfl dX4_foundLetter_1 (fun hc => ?_) (fun hc => ?_)
  · have hF := if_t hF hc
    refine aw_sub [] (lv' := []) rfl ?_
    exact bk_X4_foundLetter_21 hK hR hF
  · have hF := if_f hF hc
    refine aw_iload_n hK 1 rfl dX4_foundLetter_4 ?_
    refine aw_aload_n hK 0 rfl dX4_foundLetter_5 ?_
    refine gf_4_13 hK rfl (List.mem_of_getElem? (i := 1) rfl) dX4_foundLetter_6 ?_
    refine aw_icmp_ge hK 21 rfl dX4_foundLetter_9 (fun hc => ?_) (fun hc => ?_)
    · have hF := if_t hF hc
      refine aw_sub [] (lv' := []) rfl ?_
      exact bk_X4_foundLetter_21 hK hR hF
    · have hF := if_f hF hc
      refine aw_aload_n hK 0 rfl dX4_foundLetter_12 ?_
      refine gf_4_12 hK rfl (49) rfl (List.mem_of_getElem? (i := 2) rfl) dX4_foundLetter_13 ?_
      refine aw_iload_n hK 1 rfl dX4_foundLetter_16 ?_
      obtain ⟨g1, hF⟩ := gd_some hF
      refine aw_iald hK rfl g1 dX4_foundLetter_17 ?_
      refine aw_goto hK 23 rfl dX4_foundLetter_18 ?_
      refine aw_sub [] (lv' := []) rfl ?_
      exact bk_X4_foundLetter_23 hK hR hF
def B_X4_leastCost_21 (N : Nat) (m : Mem) (s0 : Int32) : Option (Int32 × Mem) :=
  some (s0, m)
set_option maxRecDepth 100000 in
set_option maxHeartbeats 4000000 in
theorem bk_X4_leastCost_21 {N : Nat} {K : KT} {m' : Mem} {r : Int32} (hK : KOK K cX4_leastCost 1 RX4 wsX4_leastCost 0 0 0) (hR : KRet K (some .int) (some r) m') {m : Mem} {s0 : Int32} (hF : B_X4_leastCost_21 N m s0 = some (r, m')) : AW K 0 21 [] [q_i s0] m := by
  unfold B_X4_leastCost_21 at hF
  obtain ⟨rfl, rfl⟩ := so_inj hF
  exact aw_iret hK hR rfl dX4_leastCost_21
def F_X4_leastCost (N : Nat) (m : Mem) : Option (Int32 × Mem) :=
  gd (inb (0 : Int32) (alen 46)) <|
  if (m 46 (ix (0 : Int32))) < (1000000000 : Int32) then (
    gd (inb (0 : Int32) (alen 46)) <|
    B_X4_leastCost_21 N m (m 46 (ix (0 : Int32)))
  ) else (
    B_X4_leastCost_21 N m (-1 : Int32)
  )
set_option maxRecDepth 100000 in
set_option maxHeartbeats 4000000 in
theorem tr_X4_leastCost {N : Nat} {m m' : Mem} {r : Int32} (hF : F_X4_leastCost N m = some (r, m')) : Tr yX4_leastCost wsX4_leastCost 0 0 [q_r 40] m (some r) m' := by
  refine tr_of (bytes := cX4_leastCost) (maxL := 1) (ret := (some .int)) (by decide) rfl (Nat.le_of_ble_eq_true rfl) (fun K hK hR => ?_)
  have hK : KOK K cX4_leastCost 1 RX4 wsX4_leastCost 0 0 0 := hK
  show AW K 0 0 [(0, q_r 40)] [] m
  unfold F_X4_leastCost at hF
  refine aw_aload_n hK 0 rfl dX4_leastCost_0 ?_
  refine gf_4_9 hK rfl (46) rfl (List.mem_of_getElem? (i := 1) rfl) dX4_leastCost_1 ?_
  refine aw_iconst hK (0) rfl dX4_leastCost_4 ?_
  obtain ⟨g1, hF⟩ := gd_some hF
  refine aw_iald hK rfl g1 dX4_leastCost_5 ?_
  refine aw_ldc hK (1000000000) (List.mem_of_getElem? (i := 2) rfl) dX4_leastCost_6 ?_
  refine aw_icmp_lt hK 15 rfl dX4_leastCost_8 (fun hc => ?_) (fun hc => ?_)
  · have hF := if_t hF hc
    refine aw_aload_n hK 0 rfl dX4_leastCost_15 ?_
    refine gf_4_9 hK rfl (46) rfl (List.mem_of_getElem? (i := 1) rfl) dX4_leastCost_16 ?_
    refine aw_iconst hK (0) rfl dX4_leastCost_19 ?_
    obtain ⟨g2, hF⟩ := gd_some hF
    refine aw_iald hK rfl g2 dX4_leastCost_20 ?_
    refine aw_sub [] (lv' := []) rfl ?_
    exact bk_X4_leastCost_21 hK hR hF
  · have hF := if_f hF hc
    refine aw_iconst hK (-1) rfl dX4_leastCost_11 ?_
    refine aw_goto hK 21 rfl dX4_leastCost_12 ?_
    refine aw_sub [] (lv' := []) rfl ?_
    exact bk_X4_leastCost_21 hK hR hF
def B_X5_lengthOfWayTo_33 (N : Nat) (m : Mem) (x3 : Int32) : Option (Int32 × Mem) :=
  some (x3, m)
set_option maxRecDepth 100000 in
set_option maxHeartbeats 4000000 in
theorem bk_X5_lengthOfWayTo_33 {N : Nat} {K : KT} {m' : Mem} {r : Int32} (hK : KOK K cX5_lengthOfWayTo 4 RX5 wsX5_lengthOfWayTo 0 0 0) (hR : KRet K (some .int) (some r) m') {m : Mem} {x3 : Int32} (hF : B_X5_lengthOfWayTo_33 N m x3 = some (r, m')) : AW K 0 33 [(3, q_i x3)] [] m := by
  unfold B_X5_lengthOfWayTo_33 at hF
  refine aw_iload_n hK 0 rfl dX5_lengthOfWayTo_33 ?_
  obtain ⟨rfl, rfl⟩ := so_inj hF
  exact aw_iret hK hR rfl dX5_lengthOfWayTo_34
def S_X5_lengthOfWayTo_4 (N : Nat) (rec_4 : Mem → Int32 → Int32 → Option (Int32 × Mem)) (m : Mem) (x2 : Int32) (x3 : Int32) : Option (Int32 × Mem) :=
  gd (inb x2 (alen 30)) <|
  if (m 30 (ix x2)) < (0 : Int32) then (
    B_X5_lengthOfWayTo_33 N m x3
  ) else (
    if (200 : Int32) ≤ x3 then (
      B_X5_lengthOfWayTo_33 N m x3
    ) else (
      gd (inb x2 (alen 30)) <|
      bnd (m 30 (ix x2)) fun y3 =>
      bnd (x3 + (1 : Int32)) fun y4 =>
      rec_4 m y3 y4
    )
  )
def L_X5_lengthOfWayTo_4 (N : Nat) : Nat → Mem → Int32 → Int32 → Option (Int32 × Mem)
  | 0 => fun _ _ _ => none
  | f + 1 => S_X5_lengthOfWayTo_4 N (L_X5_lengthOfWayTo_4 N f)
set_option maxRecDepth 100000 in
set_option maxHeartbeats 4000000 in
theorem lp_X5_lengthOfWayTo_4 {N : Nat} {K : KT} {m' : Mem} {r : Int32} (hK : KOK K cX5_lengthOfWayTo 4 RX5 wsX5_lengthOfWayTo 0 0 0) (hR : KRet K (some .int) (some r) m') : ∀ (f : Nat) {m : Mem} {x2 : Int32} {x3 : Int32}, L_X5_lengthOfWayTo_4 N f m x2 x3 = some (r, m') → AW K 0 4 [(0, q_r 20), (2, q_i x2), (3, q_i x3)] [] m := by
  intro f
  induction f with
  | zero => intro m x2 x3 hF; cases hF
  | succ f hrec_4 =>
    intro m x2 x3 hF
    have hF : S_X5_lengthOfWayTo_4 N (L_X5_lengthOfWayTo_4 N f) m x2 x3 = some (r, m') := hF
    unfold S_X5_lengthOfWayTo_4 at hF
    refine aw_aload_n hK 0 rfl dX5_lengthOfWayTo_4 ?_
    refine gf_5_6 hK rfl (30) rfl (List.mem_of_getElem? (i := 1) rfl) dX5_lengthOfWayTo_5 ?_
    refine aw_iload_n hK 1 rfl dX5_lengthOfWayTo_8 ?_
    obtain ⟨g1, hF⟩ := gd_some hF
    refine aw_iald hK rfl g1 dX5_lengthOfWayTo_9 ?_
    refine aw_if_lt hK 33 rfl dX5_lengthOfWayTo_10 (fun hc => ?_) (fun hc => ?_)
    · have hF := if_t hF hc
      refine aw_sub [2] (lv' := [(3, q_i x3)]) rfl ?_
      exact bk_X5_lengthOfWayTo_33 hK hR hF
    · have hF := if_f hF hc
      refine aw_iload_n hK 2 rfl dX5_lengthOfWayTo_13 ?_
      refine aw_sipush hK (200) rfl dX5_lengthOfWayTo_14 ?_
      refine aw_icmp_ge hK 33 rfl dX5_lengthOfWayTo_17 (fun hc => ?_) (fun hc => ?_)
      · have hF := if_t hF hc
        refine aw_sub [2] (lv' := [(3, q_i x3)]) rfl ?_
        exact bk_X5_lengthOfWayTo_33 hK hR hF
      · have hF := if_f hF hc
        refine aw_aload_n hK 0 rfl dX5_lengthOfWayTo_20 ?_
        refine gf_5_6 hK rfl (30) rfl (List.mem_of_getElem? (i := 1) rfl) dX5_lengthOfWayTo_21 ?_
        refine aw_iload_n hK 1 rfl dX5_lengthOfWayTo_24 ?_
        obtain ⟨g2, hF⟩ := gd_some hF
        refine aw_iald hK rfl g2 dX5_lengthOfWayTo_25 ?_
        obtain ⟨y3, hy3, hF⟩ := bnd_some hF
        refine aw_nm hy3 ?_
        refine aw_istore_n hK [(2, q_i y3), (0, q_r 20), (3, q_i x3)] (by decide) rfl dX5_lengthOfWayTo_26 ?_
        obtain ⟨y4, hy4, hF⟩ := bnd_some hF
        refine aw_iinc hK (cz := 1) 2 [(3, q_i y4), (2, q_i y3), (0, q_r 20)] (by decide) rfl rfl hy4 rfl dX5_lengthOfWayTo_27 ?_
        refine aw_goto hK 4 rfl dX5_lengthOfWayTo_30 ?_
        refine aw_sub [2, 1, 0] (lv' := [(0, q_r 20), (2, q_i y3), (3, q_i y4)]) rfl ?_
        exact hrec_4 hF
def F_X5_lengthOfWayTo (N : Nat) (m : Mem) (x1 : Int32) : Option (Int32 × Mem) :=
  L_X5_lengthOfWayTo_4 N N m x1 (0 : Int32)
set_option maxRecDepth 100000 in
set_option maxHeartbeats 4000000 in
theorem tr_X5_lengthOfWayTo {N : Nat} {m m' : Mem} {r : Int32} {x1 : Int32} (hF : F_X5_lengthOfWayTo N m x1 = some (r, m')) : Tr yX5_lengthOfWayTo wsX5_lengthOfWayTo 0 0 [q_r 20, q_i x1] m (some r) m' := by
  refine tr_of (bytes := cX5_lengthOfWayTo) (maxL := 4) (ret := (some .int)) (by decide) rfl (Nat.le_of_ble_eq_true rfl) (fun K hK hR => ?_)
  have hK : KOK K cX5_lengthOfWayTo 4 RX5 wsX5_lengthOfWayTo 0 0 0 := hK
  show AW K 0 0 [(0, q_r 20), (1, q_i x1)] [] m
  unfold F_X5_lengthOfWayTo at hF
  refine aw_iload_n hK 1 rfl dX5_lengthOfWayTo_0 ?_
  refine aw_istore_n hK [(2, q_i x1), (0, q_r 20), (1, q_i x1)] (by decide) rfl dX5_lengthOfWayTo_1 ?_
  refine aw_iconst hK (0) rfl dX5_lengthOfWayTo_2 ?_
  refine aw_istore_n hK [(3, q_i (0 : Int32)), (2, q_i x1), (0, q_r 20), (1, q_i x1)] (by decide) rfl dX5_lengthOfWayTo_3 ?_
  refine aw_sub [2, 1, 0] (lv' := [(0, q_r 20), (2, q_i x1), (3, q_i (0 : Int32))]) rfl ?_
  exact lp_X5_lengthOfWayTo_4 hK hR _ hF
def B_X5_letterOnWayTo_54 (N : Nat) (m : Mem) (x4 : Int32) : Option (Int32 × Mem) :=
  gd (inb x4 (alen 31)) <|
  some (m 31 (ix x4), m)
set_option maxRecDepth 100000 in
set_option maxHeartbeats 4000000 in
theorem bk_X5_letterOnWayTo_54 {N : Nat} {K : KT} {m' : Mem} {r : Int32} (hK : KOK K cX5_letterOnWayTo 6 RX5 wsX5_letterOnWayTo 1 0 23) (hR : KRet K (some .int) (some r) m') {m : Mem} {x4 : Int32} (hF : B_X5_letterOnWayTo_54 N m x4 = some (r, m')) : AW K 0 54 [(0, q_r 20), (4, q_i x4)] [] m := by
  unfold B_X5_letterOnWayTo_54 at hF
  refine aw_aload_n hK 0 rfl dX5_letterOnWayTo_54 ?_
  refine gf_5_7 hK rfl (31) rfl (List.mem_of_getElem? (i := 2) rfl) dX5_letterOnWayTo_55 ?_
  refine aw_iload hK 1 rfl dX5_letterOnWayTo_58 ?_
  obtain ⟨g9, hF⟩ := gd_some hF
  refine aw_iald hK rfl g9 dX5_letterOnWayTo_60 ?_
  obtain ⟨rfl, rfl⟩ := so_inj hF
  exact aw_iret hK hR rfl dX5_letterOnWayTo_61
def S_X5_letterOnWayTo_23 (N : Nat) (rec_23 : Mem → Int32 → Int32 → Int32 → Option (Int32 × Mem)) (m : Mem) (x3 : Int32) (x4 : Int32) (x5 : Int32) : Option (Int32 × Mem) :=
  if x3 ≤ x5 then (
    B_X5_letterOnWayTo_54 N m x4
  ) else (
    gd (inb x4 (alen 30)) <|
    if (m 30 (ix x4)) < (0 : Int32) then (
      B_X5_letterOnWayTo_54 N m x4
    ) else (
      gd (inb x4 (alen 30)) <|
      bnd (m 30 (ix x4)) fun y7 =>
      bnd (x5 + (1 : Int32)) fun y8 =>
      rec_23 m x3 y7 y8
    )
  )
def L_X5_letterOnWayTo_23 (N : Nat) : Nat → Mem → Int32 → Int32 → Int32 → Option (Int32 × Mem)
  | 0 => fun _ _ _ _ => none
  | f + 1 => S_X5_letterOnWayTo_23 N (L_X5_letterOnWayTo_23 N f)
set_option maxRecDepth 100000 in
set_option maxHeartbeats 4000000 in
theorem lp_X5_letterOnWayTo_23 {N : Nat} {K : KT} {m' : Mem} {r : Int32} (hK : KOK K cX5_letterOnWayTo 6 RX5 wsX5_letterOnWayTo 1 0 23) (hR : KRet K (some .int) (some r) m') : ∀ (f : Nat) {m : Mem} {x3 : Int32} {x4 : Int32} {x5 : Int32}, L_X5_letterOnWayTo_23 N f m x3 x4 x5 = some (r, m') → AW K 0 23 [(0, q_r 20), (3, q_i x3), (4, q_i x4), (5, q_i x5)] [] m := by
  intro f
  induction f with
  | zero => intro m x3 x4 x5 hF; cases hF
  | succ f hrec_23 =>
    intro m x3 x4 x5 hF
    have hF : S_X5_letterOnWayTo_23 N (L_X5_letterOnWayTo_23 N f) m x3 x4 x5 = some (r, m') := hF
    unfold S_X5_letterOnWayTo_23 at hF
    refine aw_iload hK 3 rfl dX5_letterOnWayTo_23 ?_
    refine aw_iload_n hK 1 rfl dX5_letterOnWayTo_25 ?_
    refine aw_icmp_ge hK 54 rfl dX5_letterOnWayTo_26 (fun hc => ?_) (fun hc => ?_)
    · have hF := if_t hF hc
      refine aw_sub [0, 2] (lv' := [(0, q_r 20), (4, q_i x4)]) rfl ?_
      exact bk_X5_letterOnWayTo_54 hK hR hF
    · have hF := if_f hF hc
      refine aw_aload_n hK 0 rfl dX5_letterOnWayTo_29 ?_
      refine gf_5_6 hK rfl (30) rfl (List.mem_of_getElem? (i := 1) rfl) dX5_letterOnWayTo_30 ?_
      refine aw_iload hK 2 rfl dX5_letterOnWayTo_33 ?_
      obtain ⟨g5, hF⟩ := gd_some hF
      refine aw_iald hK rfl g5 dX5_letterOnWayTo_35 ?_
      refine aw_if_lt hK 54 rfl dX5_letterOnWayTo_36 (fun hc => ?_) (fun hc => ?_)
      · have hF := if_t hF hc
        refine aw_sub [0, 2] (lv' := [(0, q_r 20), (4, q_i x4)]) rfl ?_
        exact bk_X5_letterOnWayTo_54 hK hR hF
      · have hF := if_f hF hc
        refine aw_aload_n hK 0 rfl dX5_letterOnWayTo_39 ?_
        refine gf_5_6 hK rfl (30) rfl (List.mem_of_getElem? (i := 1) rfl) dX5_letterOnWayTo_40 ?_
        refine aw_iload hK 2 rfl dX5_letterOnWayTo_43 ?_
        obtain ⟨g6, hF⟩ := gd_some hF
        refine aw_iald hK rfl g6 dX5_letterOnWayTo_45 ?_
        obtain ⟨y7, hy7, hF⟩ := bnd_some hF
        refine aw_nm hy7 ?_
        refine aw_istore hK [(4, q_i y7), (0, q_r 20), (3, q_i x3), (5, q_i x5)] (by decide) rfl dX5_letterOnWayTo_46 ?_
        obtain ⟨y8, hy8, hF⟩ := bnd_some hF
        refine aw_iinc hK (cz := 1) 3 [(5, q_i y8), (4, q_i y7), (0, q_r 20), (3, q_i x3)] (by decide) rfl rfl hy8 rfl dX5_letterOnWayTo_48 ?_
        refine aw_goto hK 23 rfl dX5_letterOnWayTo_51 ?_
        refine aw_sub [2, 3, 1, 0] (lv' := [(0, q_r 20), (3, q_i x3), (4, q_i y7), (5, q_i y8)]) rfl ?_
        exact hrec_23 hF
def F_X5_letterOnWayTo (N : Nat) (m : Mem) (x1 : Int32) (x2 : Int32) : Option (Int32 × Mem) :=
  cal (F_X5_lengthOfWayTo N m x1) fun r3 m2 =>
  bnd ((r3 - (1 : Int32)) - x2) fun y4 =>
  if (0 : Int32) ≤ y4 then (
    L_X5_letterOnWayTo_23 N N m2 y4 x1 (0 : Int32)
  ) else (
    some ((8 : Int32), m2)
  )
set_option maxRecDepth 100000 in
set_option maxHeartbeats 4000000 in
theorem tr_X5_letterOnWayTo {N : Nat} {m m' : Mem} {r : Int32} {x1 : Int32} {x2 : Int32} (hF : F_X5_letterOnWayTo N m x1 x2 = some (r, m')) : Tr yX5_letterOnWayTo wsX5_letterOnWayTo 1 23 [q_r 20, q_i x1, q_i x2] m (some r) m' := by
  refine tr_of (bytes := cX5_letterOnWayTo) (maxL := 6) (ret := (some .int)) (by decide) rfl (Nat.le_of_ble_eq_true rfl) (fun K hK hR => ?_)
  have hK : KOK K cX5_letterOnWayTo 6 RX5 wsX5_letterOnWayTo 1 0 23 := hK
  show AW K 0 0 [(0, q_r 20), (1, q_i x1), (2, q_i x2)] [] m
  unfold F_X5_letterOnWayTo at hF
  refine aw_aload_n hK 0 rfl dX5_letterOnWayTo_0 ?_
  refine aw_iload_n hK 1 rfl dX5_letterOnWayTo_1 ?_
  obtain ⟨r3, m2, h1, hF⟩ := cal_some hF
  refine aw_cv hK 5 (as := [q_i x1]) (tr_X5_lengthOfWayTo h1) gX5_letterOnWayTo_X5_lengthOfWayTo rfl rfl rfl (by decide) (na := 1) (by decide +kernel) rfl ⟨by decide, by decide⟩ (Nat.zero_le _) (Nat.le_of_ble_eq_true rfl) dX5_letterOnWayTo_2 ?_
  refine aw_iconst hK (1) rfl dX5_letterOnWayTo_5 ?_
  refine aw_isub hK dX5_letterOnWayTo_6 ?_
  refine aw_iload_n hK 2 rfl dX5_letterOnWayTo_7 ?_
  refine aw_isub hK dX5_letterOnWayTo_8 ?_
  obtain ⟨y4, hy4, hF⟩ := bnd_some hF
  refine aw_nm hy4 ?_
  refine aw_istore_n hK [(3, q_i y4), (0, q_r 20), (1, q_i x1), (2, q_i x2)] (by decide) rfl dX5_letterOnWayTo_9 ?_
  refine aw_iload_n hK 0 rfl dX5_letterOnWayTo_10 ?_
  refine aw_if_ge hK 17 rfl dX5_letterOnWayTo_11 (fun hc => ?_) (fun hc => ?_)
  · have hF := if_t hF hc
    refine aw_iload_n hK 2 rfl dX5_letterOnWayTo_17 ?_
    refine aw_istore hK [(4, q_i x1), (3, q_i y4), (0, q_r 20), (1, q_i x1), (2, q_i x2)] (by decide) rfl dX5_letterOnWayTo_18 ?_
    refine aw_iconst hK (0) rfl dX5_letterOnWayTo_20 ?_
    refine aw_istore hK [(5, q_i (0 : Int32)), (4, q_i x1), (3, q_i y4), (0, q_r 20), (1, q_i x1), (2, q_i x2)] (by decide) rfl dX5_letterOnWayTo_21 ?_
    refine aw_sub [3, 2, 1, 0] (lv' := [(0, q_r 20), (3, q_i y4), (4, q_i x1), (5, q_i (0 : Int32))]) rfl ?_
    exact lp_X5_letterOnWayTo_23 hK hR _ hF
  · have hF := if_f hF hc
    refine aw_bipush hK (8) rfl dX5_letterOnWayTo_14 ?_
    obtain ⟨rfl, rfl⟩ := so_inj hF
    exact aw_iret hK hR rfl dX5_letterOnWayTo_16
def S_X5_firstWantedLetter_2 (N : Nat) (rec_2 : Mem → Int32 → Int32 → Option (Int32 × Mem)) (m : Mem) (x1 : Int32) (x2 : Int32) : Option (Int32 × Mem) :=
  if (m 20 8) ≤ x2 then (
    some ((-1 : Int32), m)
  ) else (
    cal (F_X5_isWanted N m x2) fun r3 m2 =>
    if r3 = (0 : Int32) then (
      bnd (x2 + (1 : Int32)) fun y4 =>
      rec_2 m2 x1 y4
    ) else (
      cal (F_X5_letterOnWayTo N m2 x2 x1) fun r7 m6 =>
      some (r7, m6)
    )
  )
def L_X5_firstWantedLetter_2 (N : Nat) : Nat → Mem → Int32 → Int32 → Option (Int32 × Mem)
  | 0 => fun _ _ _ => none
  | f + 1 => S_X5_firstWantedLetter_2 N (L_X5_firstWantedLetter_2 N f)
set_option maxRecDepth 100000 in
set_option maxHeartbeats 4000000 in
theorem lp_X5_firstWantedLetter_2 {N : Nat} {K : KT} {m' : Mem} {r : Int32} (hK : KOK K cX5_firstWantedLetter 3 RX5 wsX5_firstWantedLetter 2 0 48) (hR : KRet K (some .int) (some r) m') : ∀ (f : Nat) {m : Mem} {x1 : Int32} {x2 : Int32}, L_X5_firstWantedLetter_2 N f m x1 x2 = some (r, m') → AW K 0 2 [(0, q_r 20), (1, q_i x1), (2, q_i x2)] [] m := by
  intro f
  induction f with
  | zero => intro m x1 x2 hF; cases hF
  | succ f hrec_2 =>
    intro m x1 x2 hF
    have hF : S_X5_firstWantedLetter_2 N (L_X5_firstWantedLetter_2 N f) m x1 x2 = some (r, m') := hF
    unfold S_X5_firstWantedLetter_2 at hF
    refine aw_iload_n hK 2 rfl dX5_firstWantedLetter_2 ?_
    refine aw_aload_n hK 0 rfl dX5_firstWantedLetter_3 ?_
    refine gf_5_8 hK rfl (List.mem_of_getElem? (i := 1) rfl) dX5_firstWantedLetter_4 ?_
    refine aw_icmp_ge hK 31 rfl dX5_firstWantedLetter_7 (fun hc => ?_) (fun hc => ?_)
    · have hF := if_t hF hc
      refine aw_iconst hK (-1) rfl dX5_firstWantedLetter_31 ?_
      obtain ⟨rfl, rfl⟩ := so_inj hF
      exact aw_iret hK hR rfl dX5_firstWantedLetter_32
    · have hF := if_f hF hc
      refine aw_aload_n hK 0 rfl dX5_firstWantedLetter_10 ?_
      refine aw_iload_n hK 2 rfl dX5_firstWantedLetter_11 ?_
      obtain ⟨r3, m2, h1, hF⟩ := cal_some hF
      refine aw_cv hK 5 (as := [q_i x2]) (tr_X5_isWanted h1) gX5_firstWantedLetter_X5_isWanted rfl rfl rfl (by decide) (na := 1) (by decide +kernel) rfl ⟨by decide, by decide⟩ (Nat.zero_le _) (Nat.le_of_ble_eq_true rfl) dX5_firstWantedLetter_12 ?_
      refine aw_if_eq hK 25 rfl dX5_firstWantedLetter_15 (fun hc => ?_) (fun hc => ?_)
      · have hF := if_t hF hc
        obtain ⟨y4, hy4, hF⟩ := bnd_some hF
        refine aw_iinc hK (cz := 1) 2 [(2, q_i y4), (0, q_r 20), (1, q_i x1)] (by decide) rfl rfl hy4 rfl dX5_firstWantedLetter_25 ?_
        refine aw_goto hK 2 rfl dX5_firstWantedLetter_28 ?_
        refine aw_sub [1, 2, 0] (lv' := [(0, q_r 20), (1, q_i x1), (2, q_i y4)]) rfl ?_
        exact hrec_2 hF
      · have hF := if_f hF hc
        refine aw_aload_n hK 0 rfl dX5_firstWantedLetter_18 ?_
        refine aw_iload_n hK 2 rfl dX5_firstWantedLetter_19 ?_
        refine aw_iload_n hK 1 rfl dX5_firstWantedLetter_20 ?_
        obtain ⟨r7, m6, h5, hF⟩ := cal_some hF
        refine aw_cv hK 5 (as := [q_i x2, q_i x1]) (tr_X5_letterOnWayTo h5) gX5_firstWantedLetter_X5_letterOnWayTo rfl rfl rfl (by decide) (na := 2) (by decide +kernel) rfl ⟨by decide, by decide⟩ (Nat.zero_le _) (Nat.le_of_ble_eq_true rfl) dX5_firstWantedLetter_21 ?_
        obtain ⟨rfl, rfl⟩ := so_inj hF
        exact aw_iret hK hR rfl dX5_firstWantedLetter_24
def F_X5_firstWantedLetter (N : Nat) (m : Mem) (x1 : Int32) : Option (Int32 × Mem) :=
  L_X5_firstWantedLetter_2 N N m x1 (0 : Int32)
set_option maxRecDepth 100000 in
set_option maxHeartbeats 4000000 in
theorem tr_X5_firstWantedLetter {N : Nat} {m m' : Mem} {r : Int32} {x1 : Int32} (hF : F_X5_firstWantedLetter N m x1 = some (r, m')) : Tr yX5_firstWantedLetter wsX5_firstWantedLetter 2 48 [q_r 20, q_i x1] m (some r) m' := by
  refine tr_of (bytes := cX5_firstWantedLetter) (maxL := 3) (ret := (some .int)) (by decide) rfl (Nat.le_of_ble_eq_true rfl) (fun K hK hR => ?_)
  have hK : KOK K cX5_firstWantedLetter 3 RX5 wsX5_firstWantedLetter 2 0 48 := hK
  show AW K 0 0 [(0, q_r 20), (1, q_i x1)] [] m
  unfold F_X5_firstWantedLetter at hF
  refine aw_iconst hK (0) rfl dX5_firstWantedLetter_0 ?_
  refine aw_istore_n hK [(2, q_i (0 : Int32)), (0, q_r 20), (1, q_i x1)] (by decide) rfl dX5_firstWantedLetter_1 ?_
  refine aw_sub [1, 2, 0] (lv' := [(0, q_r 20), (1, q_i x1), (2, q_i (0 : Int32))]) rfl ?_
  exact lp_X5_firstWantedLetter_2 hK hR _ hF
def B_X7_isRewritten_89 (N : Nat) (m : Mem) (s0 : Int32) : Option (Int32 × Mem) :=
  gd (isb s0) <|
  some (s0, m)
set_option maxRecDepth 100000 in
set_option maxHeartbeats 4000000 in
theorem bk_X7_isRewritten_89 {N : Nat} {K : KT} {m' : Mem} {r : Int32} (hK : KOK K cX7_isRewritten 7 RX7 wsX7_isRewritten 0 0 0) (hR : KRet K (some .boolean) (some r) m') {m : Mem} {s0 : Int32} (hF : B_X7_isRewritten_89 N m s0 = some (r, m')) : AW K 0 89 [] [q_i s0] m := by
  unfold B_X7_isRewritten_89 at hF
  obtain ⟨g4, hF⟩ := gd_some hF
  obtain ⟨rfl, rfl⟩ := so_inj hF
  exact aw_iret hK hR (isb_narrow g4) dX7_isRewritten_89
def B_X7_isRewritten_88 (N : Nat) (m : Mem) : Option (Int32 × Mem) :=
  B_X7_isRewritten_89 N m (0 : Int32)
set_option maxRecDepth 100000 in
set_option maxHeartbeats 4000000 in
theorem bk_X7_isRewritten_88 {N : Nat} {K : KT} {m' : Mem} {r : Int32} (hK : KOK K cX7_isRewritten 7 RX7 wsX7_isRewritten 0 0 0) (hR : KRet K (some .boolean) (some r) m') {m : Mem} (hF : B_X7_isRewritten_88 N m = some (r, m')) : AW K 0 88 [] [] m := by
  unfold B_X7_isRewritten_88 at hF
  refine aw_iconst hK (0) rfl dX7_isRewritten_88 ?_
  refine aw_sub [] (lv' := []) rfl ?_
  exact bk_X7_isRewritten_89 hK hR hF
def B_X7_isRewritten_62 (N : Nat) (m : Mem) (x1 : Int32) (x2 : Int32) (x5 : Int32) (s0 : Int32) : Option (Int32 × Mem) :=
  gd (inb x1 (alen 1)) <|
  if (m 1 (ix x1)) = x2 then (
    if x5 = (0 : Int32) then (
      B_X7_isRewritten_88 N m
    ) else (
      if s0 = (0 : Int32) then (
        B_X7_isRewritten_88 N m
      ) else (
        B_X7_isRewritten_89 N m (1 : Int32)
      )
    )
  ) else (
    B_X7_isRewritten_88 N m
  )
set_option maxRecDepth 100000 in
set_option maxHeartbeats 4000000 in
theorem bk_X7_isRewritten_62 {N : Nat} {K : KT} {m' : Mem} {r : Int32} (hK : KOK K cX7_isRewritten 7 RX7 wsX7_isRewritten 0 0 0) (hR : KRet K (some .boolean) (some r) m') {m : Mem} {x1 : Int32} {x2 : Int32} {x5 : Int32} {s0 : Int32} (hF : B_X7_isRewritten_62 N m x1 x2 x5 s0 = some (r, m')) : AW K 0 62 [(0, q_r 0), (1, q_i x1), (2, q_i x2), (5, q_i x5)] [q_i s0] m := by
  unfold B_X7_isRewritten_62 at hF
  refine aw_istore hK [(6, q_i s0), (0, q_r 0), (1, q_i x1), (2, q_i x2), (5, q_i x5)] (by decide) rfl dX7_isRewritten_62 ?_
  refine aw_aload_n hK 1 rfl dX7_isRewritten_64 ?_
  refine gf_7_0 hK rfl (1) rfl (List.mem_of_getElem? (i := 1) rfl) dX7_isRewritten_65 ?_
  refine aw_iload_n hK 2 rfl dX7_isRewritten_68 ?_
  obtain ⟨g3, hF⟩ := gd_some hF
  refine aw_iald hK rfl g3 dX7_isRewritten_69 ?_
  refine aw_iload_n hK 3 rfl dX7_isRewritten_70 ?_
  refine aw_icmp_ne hK 88 rfl dX7_isRewritten_71 (fun hc => ?_) (fun hc => ?_)
  · have hF := if_f hF hc
    refine aw_sub [] (lv' := []) rfl ?_
    exact bk_X7_isRewritten_88 hK hR hF
  · have hF := if_t hF hc
    refine aw_iload hK 4 rfl dX7_isRewritten_74 ?_
    refine aw_if_eq hK 88 rfl dX7_isRewritten_76 (fun hc => ?_) (fun hc => ?_)
    · have hF := if_t hF hc
      refine aw_sub [] (lv' := []) rfl ?_
      exact bk_X7_isRewritten_88 hK hR hF
    · have hF := if_f hF hc
      refine aw_iload hK 0 rfl dX7_isRewritten_79 ?_
      refine aw_if_eq hK 88 rfl dX7_isRewritten_81 (fun hc => ?_) (fun hc => ?_)
      · have hF := if_t hF hc
        refine aw_sub [] (lv' := []) rfl ?_
        exact bk_X7_isRewritten_88 hK hR hF
      · have hF := if_f hF hc
        refine aw_iconst hK (1) rfl dX7_isRewritten_84 ?_
        refine aw_goto hK 89 rfl dX7_isRewritten_85 ?_
        refine aw_sub [] (lv' := []) rfl ?_
        exact bk_X7_isRewritten_89 hK hR hF
def B_X7_isRewritten_61 (N : Nat) (m : Mem) (x1 : Int32) (x2 : Int32) (x5 : Int32) : Option (Int32 × Mem) :=
  B_X7_isRewritten_62 N m x1 x2 x5 (0 : Int32)
set_option maxRecDepth 100000 in
set_option maxHeartbeats 4000000 in
theorem bk_X7_isRewritten_61 {N : Nat} {K : KT} {m' : Mem} {r : Int32} (hK : KOK K cX7_isRewritten 7 RX7 wsX7_isRewritten 0 0 0) (hR : KRet K (some .boolean) (some r) m') {m : Mem} {x1 : Int32} {x2 : Int32} {x5 : Int32} (hF : B_X7_isRewritten_61 N m x1 x2 x5 = some (r, m')) : AW K 0 61 [(0, q_r 0), (1, q_i x1), (2, q_i x2), (5, q_i x5)] [] m := by
  unfold B_X7_isRewritten_61 at hF
  refine aw_iconst hK (0) rfl dX7_isRewritten_61 ?_
  refine aw_sub [0, 1, 2, 3] (lv' := [(0, q_r 0), (1, q_i x1), (2, q_i x2), (5, q_i x5)]) rfl ?_
  exact bk_X7_isRewritten_62 hK hR hF
def B_X7_isRewritten_57 (N : Nat) (m : Mem) (x1 : Int32) (x2 : Int32) (x5 : Int32) : Option (Int32 × Mem) :=
  B_X7_isRewritten_62 N m x1 x2 x5 (1 : Int32)
set_option maxRecDepth 100000 in
set_option maxHeartbeats 4000000 in
theorem bk_X7_isRewritten_57 {N : Nat} {K : KT} {m' : Mem} {r : Int32} (hK : KOK K cX7_isRewritten 7 RX7 wsX7_isRewritten 0 0 0) (hR : KRet K (some .boolean) (some r) m') {m : Mem} {x1 : Int32} {x2 : Int32} {x5 : Int32} (hF : B_X7_isRewritten_57 N m x1 x2 x5 = some (r, m')) : AW K 0 57 [(0, q_r 0), (1, q_i x1), (2, q_i x2), (5, q_i x5)] [] m := by
  unfold B_X7_isRewritten_57 at hF
  refine aw_iconst hK (1) rfl dX7_isRewritten_57 ?_
  refine aw_goto hK 62 rfl dX7_isRewritten_58 ?_
  refine aw_sub [0, 1, 2, 3] (lv' := [(0, q_r 0), (1, q_i x1), (2, q_i x2), (5, q_i x5)]) rfl ?_
  exact bk_X7_isRewritten_62 hK hR hF
def B_X7_isRewritten_26 (N : Nat) (m : Mem) (x1 : Int32) (x2 : Int32) (x4 : Int32) (s0 : Int32) : Option (Int32 × Mem) :=
  if x4 = (-1 : Int32) then (
    B_X7_isRewritten_57 N m x1 x2 s0
  ) else (
    if (m 0 1) ≤ (x1 + (1 : Int32)) then (
      B_X7_isRewritten_61 N m x1 x2 s0
    ) else (
      gd (inb (x1 + (1 : Int32)) (alen 1)) <|
      if (m 1 (ix (x1 + (1 : Int32)))) = x4 then (
        B_X7_isRewritten_57 N m x1 x2 s0
      ) else (
        B_X7_isRewritten_61 N m x1 x2 s0
      )
    )
  )
set_option maxRecDepth 100000 in
set_option maxHeartbeats 4000000 in
theorem bk_X7_isRewritten_26 {N : Nat} {K : KT} {m' : Mem} {r : Int32} (hK : KOK K cX7_isRewritten 7 RX7 wsX7_isRewritten 0 0 0) (hR : KRet K (some .boolean) (some r) m') {m : Mem} {x1 : Int32} {x2 : Int32} {x4 : Int32} {s0 : Int32} (hF : B_X7_isRewritten_26 N m x1 x2 x4 s0 = some (r, m')) : AW K 0 26 [(0, q_r 0), (1, q_i x1), (2, q_i x2), (4, q_i x4)] [q_i s0] m := by
  unfold B_X7_isRewritten_26 at hF
  refine aw_istore hK [(5, q_i s0), (0, q_r 0), (1, q_i x1), (2, q_i x2), (4, q_i x4)] (by decide) rfl dX7_isRewritten_26 ?_
  refine aw_iload hK 4 rfl dX7_isRewritten_28 ?_
  refine aw_iconst hK (-1) rfl dX7_isRewritten_30 ?_
  refine aw_icmp_eq hK 57 rfl dX7_isRewritten_31 (fun hc => ?_) (fun hc => ?_)
  · have hF := if_t hF hc
    refine aw_sub [1, 2, 3, 0] (lv' := [(0, q_r 0), (1, q_i x1), (2, q_i x2), (5, q_i s0)]) rfl ?_
    exact bk_X7_isRewritten_57 hK hR hF
  · have hF := if_f hF hc
    refine aw_iload_n hK 2 rfl dX7_isRewritten_34 ?_
    refine aw_iconst hK (1) rfl dX7_isRewritten_35 ?_
    refine aw_iadd hK dX7_isRewritten_36 ?_
    refine aw_aload_n hK 1 rfl dX7_isRewritten_37 ?_
    refine gf_7_1 hK rfl (List.mem_of_getElem? (i := 2) rfl) dX7_isRewritten_38 ?_
    refine aw_icmp_ge hK 61 rfl dX7_isRewritten_41 (fun hc => ?_) (fun hc => ?_)
    · have hF := if_t hF hc
      refine aw_sub [1, 2, 3, 0] (lv' := [(0, q_r 0), (1, q_i x1), (2, q_i x2), (5, q_i s0)]) rfl ?_
      exact bk_X7_isRewritten_61 hK hR hF
    · have hF := if_f hF hc
      refine aw_aload_n hK 1 rfl dX7_isRewritten_44 ?_
      refine gf_7_0 hK rfl (1) rfl (List.mem_of_getElem? (i := 1) rfl) dX7_isRewritten_45 ?_
      refine aw_iload_n hK 2 rfl dX7_isRewritten_48 ?_
      refine aw_iconst hK (1) rfl dX7_isRewritten_49 ?_
      refine aw_iadd hK dX7_isRewritten_50 ?_
      obtain ⟨g2, hF⟩ := gd_some hF
      refine aw_iald hK rfl g2 dX7_isRewritten_51 ?_
      refine aw_iload hK 4 rfl dX7_isRewritten_52 ?_
      refine aw_icmp_ne hK 61 rfl dX7_isRewritten_54 (fun hc => ?_) (fun hc => ?_)
      · have hF := if_f hF hc
        refine aw_sub [1, 2, 3, 0] (lv' := [(0, q_r 0), (1, q_i x1), (2, q_i x2), (5, q_i s0)]) rfl ?_
        exact bk_X7_isRewritten_61 hK hR hF
      · have hF := if_t hF hc
        refine aw_sub [1, 2, 3, 0] (lv' := [(0, q_r 0), (1, q_i x1), (2, q_i x2), (5, q_i s0)]) rfl ?_
        exact bk_X7_isRewritten_57 hK hR hF
def B_X7_isRewritten_25 (N : Nat) (m : Mem) (x1 : Int32) (x2 : Int32) (x4 : Int32) : Option (Int32 × Mem) :=
  B_X7_isRewritten_26 N m x1 x2 x4 (0 : Int32)
set_option maxRecDepth 100000 in
set_option maxHeartbeats 4000000 in
theorem bk_X7_isRewritten_25 {N : Nat} {K : KT} {m' : Mem} {r : Int32} (hK : KOK K cX7_isRewritten 7 RX7 wsX7_isRewritten 0 0 0) (hR : KRet K (some .boolean) (some r) m') {m : Mem} {x1 : Int32} {x2 : Int32} {x4 : Int32} (hF : B_X7_isRewritten_25 N m x1 x2 x4 = some (r, m')) : AW K 0 25 [(0, q_r 0), (1, q_i x1), (2, q_i x2), (4, q_i x4)] [] m := by
  unfold B_X7_isRewritten_25 at hF
  refine aw_iconst hK (0) rfl dX7_isRewritten_25 ?_
  refine aw_sub [0, 1, 2, 3] (lv' := [(0, q_r 0), (1, q_i x1), (2, q_i x2), (4, q_i x4)]) rfl ?_
  exact bk_X7_isRewritten_26 hK hR hF
def B_X7_isRewritten_21 (N : Nat) (m : Mem) (x1 : Int32) (x2 : Int32) (x4 : Int32) : Option (Int32 × Mem) :=
  B_X7_isRewritten_26 N m x1 x2 x4 (1 : Int32)
set_option maxRecDepth 100000 in
set_option maxHeartbeats 4000000 in
theorem bk_X7_isRewritten_21 {N : Nat} {K : KT} {m' : Mem} {r : Int32} (hK : KOK K cX7_isRewritten 7 RX7 wsX7_isRewritten 0 0 0) (hR : KRet K (some .boolean) (some r) m') {m : Mem} {x1 : Int32} {x2 : Int32} {x4 : Int32} (hF : B_X7_isRewritten_21 N m x1 x2 x4 = some (r, m')) : AW K 0 21 [(0, q_r 0), (1, q_i x1), (2, q_i x2), (4, q_i x4)] [] m := by
  unfold B_X7_isRewritten_21 at hF
  refine aw_iconst hK (1) rfl dX7_isRewritten_21 ?_
  refine aw_goto hK 26 rfl dX7_isRewritten_22 ?_
  refine aw_sub [0, 1, 2, 3] (lv' := [(0, q_r 0), (1, q_i x1), (2, q_i x2), (4, q_i x4)]) rfl ?_
  exact bk_X7_isRewritten_26 hK hR hF
def F_X7_isRewritten (N : Nat) (m : Mem) (x1 : Int32) (x2 : Int32) (x3 : Int32) (x4 : Int32) : Option (Int32 × Mem) :=
  if x3 = (-1 : Int32) then (
    B_X7_isRewritten_21 N m x1 x2 x4
  ) else (
    if x1 ≤ (0 : Int32) then (
      B_X7_isRewritten_25 N m x1 x2 x4
    ) else (
      gd (inb (x1 - (1 : Int32)) (alen 1)) <|
      if (m 1 (ix (x1 - (1 : Int32)))) = x3 then (
        B_X7_isRewritten_21 N m x1 x2 x4
      ) else (
        B_X7_isRewritten_25 N m x1 x2 x4
      )
    )
  )
set_option maxRecDepth 100000 in
set_option maxHeartbeats 4000000 in
theorem tr_X7_isRewritten {N : Nat} {m m' : Mem} {r : Int32} {x1 : Int32} {x2 : Int32} {x3 : Int32} {x4 : Int32} (hF : F_X7_isRewritten N m x1 x2 x3 x4 = some (r, m')) : Tr yX7_isRewritten wsX7_isRewritten 0 0 [q_r 0, q_i x1, q_i x2, q_i x3, q_i x4] m (some r) m' := by
  refine tr_of (bytes := cX7_isRewritten) (maxL := 7) (ret := (some .boolean)) (by decide) rfl (Nat.le_of_ble_eq_true rfl) (fun K hK hR => ?_)
  have hK : KOK K cX7_isRewritten 7 RX7 wsX7_isRewritten 0 0 0 := hK
  show AW K 0 0 [(0, q_r 0), (1, q_i x1), (2, q_i x2), (3, q_i x3), (4, q_i x4)] [] m
  unfold F_X7_isRewritten at hF
  refine aw_iload_n hK 3 rfl dX7_isRewritten_0 ?_
  refine aw_iconst hK (-1) rfl dX7_isRewritten_1 ?_
  refine aw_icmp_eq hK 21 rfl dX7_isRewritten_2 (fun hc => ?_) (fun hc => ?_)
  · have hF := if_t hF hc
    refine aw_sub [0, 1, 2, 4] (lv' := [(0, q_r 0), (1, q_i x1), (2, q_i x2), (4, q_i x4)]) rfl ?_
    exact bk_X7_isRewritten_21 hK hR hF
  · have hF := if_f hF hc
    refine aw_iload_n hK 1 rfl dX7_isRewritten_5 ?_
    refine aw_if_le hK 25 rfl dX7_isRewritten_6 (fun hc => ?_) (fun hc => ?_)
    · have hF := if_t hF hc
      refine aw_sub [0, 1, 2, 4] (lv' := [(0, q_r 0), (1, q_i x1), (2, q_i x2), (4, q_i x4)]) rfl ?_
      exact bk_X7_isRewritten_25 hK hR hF
    · have hF := if_f hF hc
      refine aw_aload_n hK 0 rfl dX7_isRewritten_9 ?_
      refine gf_7_0 hK rfl (1) rfl (List.mem_of_getElem? (i := 1) rfl) dX7_isRewritten_10 ?_
      refine aw_iload_n hK 1 rfl dX7_isRewritten_13 ?_
      refine aw_iconst hK (1) rfl dX7_isRewritten_14 ?_
      refine aw_isub hK dX7_isRewritten_15 ?_
      obtain ⟨g1, hF⟩ := gd_some hF
      refine aw_iald hK rfl g1 dX7_isRewritten_16 ?_
      refine aw_iload_n hK 3 rfl dX7_isRewritten_17 ?_
      refine aw_icmp_ne hK 25 rfl dX7_isRewritten_18 (fun hc => ?_) (fun hc => ?_)
      · have hF := if_f hF hc
        refine aw_sub [0, 1, 2, 4] (lv' := [(0, q_r 0), (1, q_i x1), (2, q_i x2), (4, q_i x4)]) rfl ?_
        exact bk_X7_isRewritten_25 hK hR hF
      · have hF := if_t hF hc
        refine aw_sub [0, 1, 2, 4] (lv' := [(0, q_r 0), (1, q_i x1), (2, q_i x2), (4, q_i x4)]) rfl ?_
        exact bk_X7_isRewritten_21 hK hR hF
