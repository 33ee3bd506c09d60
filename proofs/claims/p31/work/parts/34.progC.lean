def B_X4_lessen_33 (N : Nat) (m : Mem) : Option (Int32 × Mem) :=
  some ((0 : Int32), m)
set_option maxRecDepth 100000 in
set_option maxHeartbeats 4000000 in
theorem bk_X4_lessen_33 {N : Nat} {K : KT} {m' : Mem} {r : Int32} (hK : KOK K cX4_lessen 4 RX4 wsX4_lessen 0 0 0) (hR : KRet K (some .boolean) (some r) m') {m : Mem} (hF : B_X4_lessen_33 N m = some (r, m')) : AW K 0 33 [] [] m := by
  unfold B_X4_lessen_33 at hF
  refine aw_iconst hK (0) rfl dX4_lessen_33 ?_
  obtain ⟨rfl, rfl⟩ := so_inj hF
  exact aw_iret hK hR rfl dX4_lessen_34
def F_X4_lessen (N : Nat) (m : Mem) (x1 : Int32) (x2 : Int32) (x3 : Int32) : Option (Int32 × Mem) :=
  if x2 = (-1 : Int32) then (
    B_X4_lessen_33 N m
  ) else (
    gd (inb x3 (alen 46)) <|
    if (1000000000 : Int32) ≤ (m 46 (ix x3)) then (
      B_X4_lessen_33 N m
    ) else (
      gd (inb x3 (alen 46)) <|
      gd (inb x1 (alen 46)) <|
      if ((m 46 (ix x3)) + x2) < (m 46 (ix x1)) then (
        gd (inb x3 (alen 46)) <|
        gd (inb x1 (alen 46)) <|
        bnd (mup m 46 (ix x1) ((m 46 (ix x3)) + x2)) fun m6 =>
        some ((1 : Int32), m6)
      ) else (
        B_X4_lessen_33 N m
      )
    )
  )
set_option maxRecDepth 100000 in
set_option maxHeartbeats 4000000 in
theorem tr_X4_lessen {N : Nat} {m m' : Mem} {r : Int32} {x1 : Int32} {x2 : Int32} {x3 : Int32} (hF : F_X4_lessen N m x1 x2 x3 = some (r, m')) : Tr yX4_lessen wsX4_lessen 0 0 [q_r 40, q_i x1, q_i x2, q_i x3] m (some r) m' := by
  refine tr_of (bytes := cX4_lessen) (maxL := 4) (ret := (some .boolean)) (by decide) rfl (Nat.le_of_ble_eq_true rfl) (fun K hK hR => ?_)
  have hK : KOK K cX4_lessen 4 RX4 wsX4_lessen 0 0 0 := hK
  show AW K 0 0 [(0, q_r 40), (1, q_i x1), (2, q_i x2), (3, q_i x3)] [] m
  unfold F_X4_lessen at hF
  refine aw_iload_n hK 2 rfl dX4_lessen_0 ?_
  refine aw_iconst hK (-1) rfl dX4_lessen_1 ?_
  refine aw_icmp_eq hK 33 rfl dX4_lessen_2 (fun hc => ?_) (fun hc => ?_)
  · have hF := if_t hF hc
    refine aw_sub [] (lv' := []) rfl ?_
    exact bk_X4_lessen_33 hK hR hF
  · have hF := if_f hF hc
    refine aw_aload_n hK 0 rfl dX4_lessen_5 ?_
    refine gf_4_9 hK rfl (46) rfl (List.mem_of_getElem? (i := 1) rfl) dX4_lessen_6 ?_
    refine aw_iload_n hK 3 rfl dX4_lessen_9 ?_
    obtain ⟨g1, hF⟩ := gd_some hF
    refine aw_iald hK rfl g1 dX4_lessen_10 ?_
    refine aw_ldc hK (1000000000) (List.mem_of_getElem? (i := 2) rfl) dX4_lessen_11 ?_
    refine aw_icmp_ge hK 33 rfl dX4_lessen_13 (fun hc => ?_) (fun hc => ?_)
    · have hF := if_t hF hc
      refine aw_sub [] (lv' := []) rfl ?_
      exact bk_X4_lessen_33 hK hR hF
    · have hF := if_f hF hc
      refine aw_aload_n hK 0 rfl dX4_lessen_16 ?_
      refine gf_4_9 hK rfl (46) rfl (List.mem_of_getElem? (i := 1) rfl) dX4_lessen_17 ?_
      refine aw_iload_n hK 3 rfl dX4_lessen_20 ?_
      obtain ⟨g2, hF⟩ := gd_some hF
      refine aw_iald hK rfl g2 dX4_lessen_21 ?_
      refine aw_iload_n hK 2 rfl dX4_lessen_22 ?_
      refine aw_iadd hK dX4_lessen_23 ?_
      refine aw_aload_n hK 0 rfl dX4_lessen_24 ?_
      refine gf_4_9 hK rfl (46) rfl (List.mem_of_getElem? (i := 1) rfl) dX4_lessen_25 ?_
      refine aw_iload_n hK 1 rfl dX4_lessen_28 ?_
      obtain ⟨g3, hF⟩ := gd_some hF
      refine aw_iald hK rfl g3 dX4_lessen_29 ?_
      refine aw_icmp_lt hK 35 rfl dX4_lessen_30 (fun hc => ?_) (fun hc => ?_)
      · have hF := if_t hF hc
        refine aw_aload_n hK 0 rfl dX4_lessen_35 ?_
        refine gf_4_9 hK rfl (46) rfl (List.mem_of_getElem? (i := 1) rfl) dX4_lessen_36 ?_
        refine aw_iload_n hK 1 rfl dX4_lessen_39 ?_
        refine aw_aload_n hK 0 rfl dX4_lessen_40 ?_
        refine gf_4_9 hK rfl (46) rfl (List.mem_of_getElem? (i := 1) rfl) dX4_lessen_41 ?_
        refine aw_iload_n hK 3 rfl dX4_lessen_44 ?_
        obtain ⟨g4, hF⟩ := gd_some hF
        refine aw_iald hK rfl g4 dX4_lessen_45 ?_
        refine aw_iload_n hK 2 rfl dX4_lessen_46 ?_
        refine aw_iadd hK dX4_lessen_47 ?_
        obtain ⟨g5, hF⟩ := gd_some hF
        refine aw_iast hK rfl g5 dX4_lessen_48 ?_
        obtain ⟨m6, hm6, hF⟩ := bnd_some hF
        refine aw_mm hm6 ?_
        refine aw_iconst hK (1) rfl dX4_lessen_49 ?_
        obtain ⟨rfl, rfl⟩ := so_inj hF
        exact aw_iret hK hR rfl dX4_lessen_50
      · have hF := if_f hF hc
        refine aw_sub [] (lv' := []) rfl ?_
        exact bk_X4_lessen_33 hK hR hF
def B_X4_costToSkip_21 (N : Nat) (m : Mem) (s0 : Int32) : Option (Int32 × Mem) :=
  some (s0, m)
set_option maxRecDepth 100000 in
set_option maxHeartbeats 4000000 in
theorem bk_X4_costToSkip_21 {N : Nat} {K : KT} {m' : Mem} {r : Int32} (hK : KOK K cX4_costToSkip 2 RX4 wsX4_costToSkip 0 0 0) (hR : KRet K (some .int) (some r) m') {m : Mem} {s0 : Int32} (hF : B_X4_costToSkip_21 N m s0 = some (r, m')) : AW K 0 21 [] [q_i s0] m := by
  unfold B_X4_costToSkip_21 at hF
  obtain ⟨rfl, rfl⟩ := so_inj hF
  exact aw_iret hK hR rfl dX4_costToSkip_21
def B_X4_costToSkip_20 (N : Nat) (m : Mem) : Option (Int32 × Mem) :=
  B_X4_costToSkip_21 N m (-1 : Int32)
set_option maxRecDepth 100000 in
set_option maxHeartbeats 4000000 in
theorem bk_X4_costToSkip_20 {N : Nat} {K : KT} {m' : Mem} {r : Int32} (hK : KOK K cX4_costToSkip 2 RX4 wsX4_costToSkip 0 0 0) (hR : KRet K (some .int) (some r) m') {m : Mem} (hF : B_X4_costToSkip_20 N m = some (r, m')) : AW K 0 20 [] [] m := by
  unfold B_X4_costToSkip_20 at hF
  refine aw_iconst hK (-1) rfl dX4_costToSkip_20 ?_
  refine aw_sub [] (lv' := []) rfl ?_
  exact bk_X4_costToSkip_21 hK hR hF
def F_X4_costToSkip (N : Nat) (m : Mem) (x1 : Int32) : Option (Int32 × Mem) :=
  if (m 40 3) = (2 : Int32) then (
    if (m 40 1) ≤ x1 then (
      B_X4_costToSkip_20 N m
    ) else (
      B_X4_costToSkip_21 N m (1 : Int32)
    )
  ) else (
    B_X4_costToSkip_20 N m
  )
set_option maxRecDepth 100000 in
set_option maxHeartbeats 4000000 in
theorem tr_X4_costToSkip {N : Nat} {m m' : Mem} {r : Int32} {x1 : Int32} (hF : F_X4_costToSkip N m x1 = some (r, m')) : Tr yX4_costToSkip wsX4_costToSkip 0 0 [q_r 40, q_i x1] m (some r) m' := by
  refine tr_of (bytes := cX4_costToSkip) (maxL := 2) (ret := (some .int)) (by decide) rfl (Nat.le_of_ble_eq_true rfl) (fun K hK hR => ?_)
  have hK : KOK K cX4_costToSkip 2 RX4 wsX4_costToSkip 0 0 0 := hK
  show AW K 0 0 [(0, q_r 40), (1, q_i x1)] [] m
  unfold F_X4_costToSkip at hF
  refine aw_aload_n hK 0 rfl dX4_costToSkip_0 ?_
  refine gf_4_3 hK rfl (List.mem_of_getElem? (i := 1) rfl) dX4_costToSkip_1 ?_
  refine aw_iconst hK (2) rfl dX4_costToSkip_4 ?_
  refine aw_icmp_ne hK 20 rfl dX4_costToSkip_5 (fun hc => ?_) (fun hc => ?_)
  · have hF := if_f hF hc
    refine aw_sub [] (lv' := []) rfl ?_
    exact bk_X4_costToSkip_20 hK hR hF
  · have hF := if_t hF hc
    refine aw_iload_n hK 1 rfl dX4_costToSkip_8 ?_
    refine aw_aload_n hK 0 rfl dX4_costToSkip_9 ?_
    refine gf_4_1 hK rfl (List.mem_of_getElem? (i := 2) rfl) dX4_costToSkip_10 ?_
    refine aw_icmp_ge hK 20 rfl dX4_costToSkip_13 (fun hc => ?_) (fun hc => ?_)
    · have hF := if_t hF hc
      refine aw_sub [] (lv' := []) rfl ?_
      exact bk_X4_costToSkip_20 hK hR hF
    · have hF := if_f hF hc
      refine aw_iconst hK (1) rfl dX4_costToSkip_16 ?_
      refine aw_goto hK 21 rfl dX4_costToSkip_17 ?_
      refine aw_sub [] (lv' := []) rfl ?_
      exact bk_X4_costToSkip_21 hK hR hF
def S_X4_measureReading_57 (N : Nat) (rec_57 : Mem → Int32 → Int32 → Option Mem) (m : Mem) (x1 : Int32) (x2 : Int32) : Option Mem :=
  bnd (ix (m 40 2)) fun q12 => gd (knd q12 == 3) <|
  if (m q12 1) ≤ x2 then (
    some m
  ) else (
    cal (F_X4_costToSkip N m x1) fun r16 m15 =>
    cal (F_X4_lessen N m15 (P_X4_cellAt x1 x2) r16 (P_X4_cellAt (x1 + (1 : Int32)) x2)) fun r19 m18 =>
    bnd (x2 + (1 : Int32)) fun y20 =>
    rec_57 m18 x1 y20
  )
def L_X4_measureReading_57 (N : Nat) : Nat → Mem → Int32 → Int32 → Option Mem
  | 0 => fun _ _ _ => none
  | f + 1 => S_X4_measureReading_57 N (L_X4_measureReading_57 N f)
set_option maxRecDepth 100000 in
set_option maxHeartbeats 4000000 in
theorem lp_X4_measureReading_57 {N : Nat} {K : KT} {m' : Mem} (hK : KOK K cX4_measureReading 3 RX4 wsX4_measureReading 1 0 23) (hR : KRet K none none m') : ∀ (f : Nat) {m : Mem} {x1 : Int32} {x2 : Int32}, L_X4_measureReading_57 N f m x1 x2 = some m' → AW K 0 57 [(0, q_r 40), (1, q_i x1), (2, q_i x2)] [] m := by
  intro f
  induction f with
  | zero => intro m x1 x2 hF; cases hF
  | succ f hrec_57 =>
    intro m x1 x2 hF
    have hF : S_X4_measureReading_57 N (L_X4_measureReading_57 N f) m x1 x2 = some m' := hF
    unfold S_X4_measureReading_57 at hF
    refine aw_iload_n hK 2 rfl dX4_measureReading_57 ?_
    refine aw_aload_n hK 0 rfl dX4_measureReading_58 ?_
    refine gf_4_2 hK rfl (List.mem_of_getElem? (i := 1) rfl) dX4_measureReading_59 ?_
    obtain ⟨q12, hq12, hF⟩ := bnd_some hF
    obtain ⟨g13, hF⟩ := gd_some hF
    refine aw_nr hq12 ?_
    refine gf_3_1 hK (eq_of_beq g13) (List.mem_of_getElem? (i := 6) rfl) dX4_measureReading_62 ?_
    refine aw_icmp_ge hK 96 rfl dX4_measureReading_65 (fun hc => ?_) (fun hc => ?_)
    · have hF := if_t hF hc
      obtain rfl := Option.some.inj hF
      exact aw_vret hK hR dX4_measureReading_96
    · have hF := if_f hF hc
      refine aw_aload_n hK 0 rfl dX4_measureReading_68 ?_
      refine aw_iload_n hK 1 rfl dX4_measureReading_69 ?_
      refine aw_iload_n hK 2 rfl dX4_measureReading_70 ?_
      refine aw_cs hK (as := [q_i x1, q_i x2]) (trp_X4_cellAt x1 x2 _) gX4_measureReading_X4_cellAt rfl (na := 2) (by decide +kernel) rfl ⟨by decide, by decide⟩ (Nat.zero_le _) (Nat.le_of_ble_eq_true rfl) dX4_measureReading_71 ?_
      refine aw_aload_n hK 0 rfl dX4_measureReading_74 ?_
      refine aw_iload_n hK 1 rfl dX4_measureReading_75 ?_
      obtain ⟨r16, m15, h14, hF⟩ := cal_some hF
      refine aw_cv hK 4 (as := [q_i x1]) (tr_X4_costToSkip h14) gX4_measureReading_X4_costToSkip rfl rfl rfl (by decide) (na := 1) (by decide +kernel) rfl ⟨by decide, by decide⟩ (Nat.zero_le _) (Nat.le_of_ble_eq_true rfl) dX4_measureReading_76 ?_
      refine aw_iload_n hK 1 rfl dX4_measureReading_79 ?_
      refine aw_iconst hK (1) rfl dX4_measureReading_80 ?_
      refine aw_iadd hK dX4_measureReading_81 ?_
      refine aw_iload_n hK 2 rfl dX4_measureReading_82 ?_
      refine aw_cs hK (as := [q_i (x1 + (1 : Int32)), q_i x2]) (trp_X4_cellAt (x1 + (1 : Int32)) x2 _) gX4_measureReading_X4_cellAt rfl (na := 2) (by decide +kernel) rfl ⟨by decide, by decide⟩ (Nat.zero_le _) (Nat.le_of_ble_eq_true rfl) dX4_measureReading_83 ?_
      obtain ⟨r19, m18, h17, hF⟩ := cal_some hF
      refine aw_cv hK 4 (as := [q_i (P_X4_cellAt x1 x2), q_i r16, q_i (P_X4_cellAt (x1 + (1 : Int32)) x2)]) (tr_X4_lessen h17) gX4_measureReading_X4_lessen rfl rfl rfl (by decide) (na := 3) (by decide +kernel) rfl ⟨by decide, by decide⟩ (Nat.zero_le _) (Nat.le_of_ble_eq_true rfl) dX4_measureReading_86 ?_
      refine aw_pop hK rfl dX4_measureReading_89 ?_
      obtain ⟨y20, hy20, hF⟩ := bnd_some hF
      refine aw_iinc hK (cz := 1) 2 [(2, q_i y20), (0, q_r 40), (1, q_i x1)] (by decide) rfl rfl hy20 rfl dX4_measureReading_90 ?_
      refine aw_goto hK 57 rfl dX4_measureReading_93 ?_
      refine aw_sub [1, 2, 0] (lv' := [(0, q_r 40), (1, q_i x1), (2, q_i y20)]) rfl ?_
      exact hrec_57 hF
def S_X4_measureReading_2 (N : Nat) (rec_2 : Mem → Int32 → Int32 → Option Mem) (m : Mem) (x1 : Int32) (x2 : Int32) : Option Mem :=
  bnd (ix (m 40 2)) fun q1 => gd (knd q1 == 3) <|
  if (m (q1 + 1) 2) ≤ x2 then (
    L_X4_measureReading_57 N N m x1 (0 : Int32)
  ) else (
    gd (inb x2 (alen 42)) <|
    cal (F_X4_costToRead N m x2 x1) fun r6 m5 =>
    gd (inb x2 (alen 45)) <|
    cal (F_X4_lessen N m5 (P_X4_cellAt x1 (m 42 (ix x2))) r6 (P_X4_cellAt (x1 + (1 : Int32)) (m5 45 (ix x2)))) fun r10 m9 =>
    bnd (x2 + (1 : Int32)) fun y11 =>
    rec_2 m9 x1 y11
  )
def L_X4_measureReading_2 (N : Nat) : Nat → Mem → Int32 → Int32 → Option Mem
  | 0 => fun _ _ _ => none
  | f + 1 => S_X4_measureReading_2 N (L_X4_measureReading_2 N f)
set_option maxRecDepth 100000 in
set_option maxHeartbeats 4000000 in
theorem lp_X4_measureReading_2 {N : Nat} {K : KT} {m' : Mem} (hK : KOK K cX4_measureReading 3 RX4 wsX4_measureReading 1 0 23) (hR : KRet K none none m') : ∀ (f : Nat) {m : Mem} {x1 : Int32} {x2 : Int32}, L_X4_measureReading_2 N f m x1 x2 = some m' → AW K 0 2 [(0, q_r 40), (1, q_i x1), (2, q_i x2)] [] m := by
  intro f
  induction f with
  | zero => intro m x1 x2 hF; cases hF
  | succ f hrec_2 =>
    intro m x1 x2 hF
    have hF : S_X4_measureReading_2 N (L_X4_measureReading_2 N f) m x1 x2 = some m' := hF
    unfold S_X4_measureReading_2 at hF
    refine aw_iload_n hK 2 rfl dX4_measureReading_2 ?_
    refine aw_aload_n hK 0 rfl dX4_measureReading_3 ?_
    refine gf_4_2 hK rfl (List.mem_of_getElem? (i := 1) rfl) dX4_measureReading_4 ?_
    obtain ⟨q1, hq1, hF⟩ := bnd_some hF
    obtain ⟨g2, hF⟩ := gd_some hF
    refine aw_nr hq1 ?_
    refine gf_3_0 hK (eq_of_beq g2) (q1 + 1) rfl (List.mem_of_getElem? (i := 2) rfl) dX4_measureReading_7 ?_
    refine gf_0_2 hK (kM1 (eq_of_beq g2)) (List.mem_of_getElem? (i := 3) rfl) dX4_measureReading_10 ?_
    refine aw_icmp_ge hK 55 rfl dX4_measureReading_13 (fun hc => ?_) (fun hc => ?_)
    · have hF := if_t hF hc
      refine aw_iconst hK (0) rfl dX4_measureReading_55 ?_
      refine aw_istore_n hK [(2, q_i (0 : Int32)), (0, q_r 40), (1, q_i x1)] (by decide) rfl dX4_measureReading_56 ?_
      refine aw_sub [1, 2, 0] (lv' := [(0, q_r 40), (1, q_i x1), (2, q_i (0 : Int32))]) rfl ?_
      exact lp_X4_measureReading_57 hK hR _ hF
    · have hF := if_f hF hc
      refine aw_aload_n hK 0 rfl dX4_measureReading_16 ?_
      refine aw_iload_n hK 1 rfl dX4_measureReading_17 ?_
      refine aw_aload_n hK 0 rfl dX4_measureReading_18 ?_
      refine gf_4_5 hK rfl (42) rfl (List.mem_of_getElem? (i := 4) rfl) dX4_measureReading_19 ?_
      refine aw_iload_n hK 2 rfl dX4_measureReading_22 ?_
      obtain ⟨g3, hF⟩ := gd_some hF
      refine aw_iald hK rfl g3 dX4_measureReading_23 ?_
      refine aw_cs hK (as := [q_i x1, q_i (m 42 (ix x2))]) (trp_X4_cellAt x1 (m 42 (ix x2)) _) gX4_measureReading_X4_cellAt rfl (na := 2) (by decide +kernel) rfl ⟨by decide, by decide⟩ (Nat.zero_le _) (Nat.le_of_ble_eq_true rfl) dX4_measureReading_24 ?_
      refine aw_aload_n hK 0 rfl dX4_measureReading_27 ?_
      refine aw_iload_n hK 2 rfl dX4_measureReading_28 ?_
      refine aw_iload_n hK 1 rfl dX4_measureReading_29 ?_
      obtain ⟨r6, m5, h4, hF⟩ := cal_some hF
      refine aw_cv hK 4 (as := [q_i x2, q_i x1]) (tr_X4_costToRead h4) gX4_measureReading_X4_costToRead rfl rfl rfl (by decide) (na := 2) (by decide +kernel) rfl ⟨by decide, by decide⟩ (Nat.zero_le _) (Nat.le_of_ble_eq_true rfl) dX4_measureReading_30 ?_
      refine aw_iload_n hK 1 rfl dX4_measureReading_33 ?_
      refine aw_iconst hK (1) rfl dX4_measureReading_34 ?_
      refine aw_iadd hK dX4_measureReading_35 ?_
      refine aw_aload_n hK 0 rfl dX4_measureReading_36 ?_
      refine gf_4_8 hK rfl (45) rfl (List.mem_of_getElem? (i := 5) rfl) dX4_measureReading_37 ?_
      refine aw_iload_n hK 2 rfl dX4_measureReading_40 ?_
      obtain ⟨g7, hF⟩ := gd_some hF
      refine aw_iald hK rfl g7 dX4_measureReading_41 ?_
      refine aw_cs hK (as := [q_i (x1 + (1 : Int32)), q_i (m5 45 (ix x2))]) (trp_X4_cellAt (x1 + (1 : Int32)) (m5 45 (ix x2)) _) gX4_measureReading_X4_cellAt rfl (na := 2) (by decide +kernel) rfl ⟨by decide, by decide⟩ (Nat.zero_le _) (Nat.le_of_ble_eq_true rfl) dX4_measureReading_42 ?_
      obtain ⟨r10, m9, h8, hF⟩ := cal_some hF
      refine aw_cv hK 4 (as := [q_i (P_X4_cellAt x1 (m 42 (ix x2))), q_i r6, q_i (P_X4_cellAt (x1 + (1 : Int32)) (m5 45 (ix x2)))]) (tr_X4_lessen h8) gX4_measureReading_X4_lessen rfl rfl rfl (by decide) (na := 3) (by decide +kernel) rfl ⟨by decide, by decide⟩ (Nat.zero_le _) (Nat.le_of_ble_eq_true rfl) dX4_measureReading_45 ?_
      refine aw_pop hK rfl dX4_measureReading_48 ?_
      obtain ⟨y11, hy11, hF⟩ := bnd_some hF
      refine aw_iinc hK (cz := 1) 2 [(2, q_i y11), (0, q_r 40), (1, q_i x1)] (by decide) rfl rfl hy11 rfl dX4_measureReading_49 ?_
      refine aw_goto hK 2 rfl dX4_measureReading_52 ?_
      refine aw_sub [1, 2, 0] (lv' := [(0, q_r 40), (1, q_i x1), (2, q_i y11)]) rfl ?_
      exact hrec_2 hF
def F_X4_measureReading (N : Nat) (m : Mem) (x1 : Int32) : Option Mem :=
  L_X4_measureReading_2 N N m x1 (0 : Int32)
set_option maxRecDepth 100000 in
set_option maxHeartbeats 4000000 in
theorem tr_X4_measureReading {N : Nat} {m m' : Mem} {x1 : Int32} (hF : F_X4_measureReading N m x1 = some m') : Tr yX4_measureReading wsX4_measureReading 1 23 [q_r 40, q_i x1] m none m' := by
  refine tr_of (bytes := cX4_measureReading) (maxL := 3) (ret := none) (by decide) rfl (Nat.le_of_ble_eq_true rfl) (fun K hK hR => ?_)
  have hK : KOK K cX4_measureReading 3 RX4 wsX4_measureReading 1 0 23 := hK
  show AW K 0 0 [(0, q_r 40), (1, q_i x1)] [] m
  unfold F_X4_measureReading at hF
  refine aw_iconst hK (0) rfl dX4_measureReading_0 ?_
  refine aw_istore_n hK [(2, q_i (0 : Int32)), (0, q_r 40), (1, q_i x1)] (by decide) rfl dX4_measureReading_1 ?_
  refine aw_sub [1, 2, 0] (lv' := [(0, q_r 40), (1, q_i x1), (2, q_i (0 : Int32))]) rfl ?_
  exact lp_X4_measureReading_2 hK hR _ hF
def B_X4_costToStay_52 (N : Nat) (m : Mem) (s0 : Int32) : Option (Int32 × Mem) :=
  some (s0, m)
set_option maxRecDepth 100000 in
set_option maxHeartbeats 4000000 in
theorem bk_X4_costToStay_52 {N : Nat} {K : KT} {m' : Mem} {r : Int32} (hK : KOK K cX4_costToStay 2 RX4 wsX4_costToStay 0 0 0) (hR : KRet K (some .int) (some r) m') {m : Mem} {s0 : Int32} (hF : B_X4_costToStay_52 N m s0 = some (r, m')) : AW K 0 52 [] [q_i s0] m := by
  unfold B_X4_costToStay_52 at hF
  obtain ⟨rfl, rfl⟩ := so_inj hF
  exact aw_iret hK hR rfl dX4_costToStay_52
def B_X4_costToStay_24 (N : Nat) (m : Mem) (s0 : Int32) : Option (Int32 × Mem) :=
  some (s0, m)
set_option maxRecDepth 100000 in
set_option maxHeartbeats 4000000 in
theorem bk_X4_costToStay_24 {N : Nat} {K : KT} {m' : Mem} {r : Int32} (hK : KOK K cX4_costToStay 2 RX4 wsX4_costToStay 0 0 0) (hR : KRet K (some .int) (some r) m') {m : Mem} {s0 : Int32} (hF : B_X4_costToStay_24 N m s0 = some (r, m')) : AW K 0 24 [] [q_i s0] m := by
  unfold B_X4_costToStay_24 at hF
  obtain ⟨rfl, rfl⟩ := so_inj hF
  exact aw_iret hK hR rfl dX4_costToStay_24
def F_X4_costToStay (N : Nat) (m : Mem) (x1 : Int32) : Option (Int32 × Mem) :=
  if (m 40 3) = (2 : Int32) then (
    gd (inb x1 (alen 43)) <|
    if (m 43 (ix x1)) = (8 : Int32) then (
      B_X4_costToStay_24 N m (0 : Int32)
    ) else (
      B_X4_costToStay_24 N m (1 : Int32)
    )
  ) else (
    gd (inb x1 (alen 43)) <|
    if (m 43 (ix x1)) = (8 : Int32) then (
      bnd (ix (m 40 2)) fun q2 => gd (knd q2 == 3) <|
      gd (inb x1 (alen ((q2 + 1) + 2))) <|
      B_X4_costToStay_52 N m (m ((q2 + 1) + 2) (ix x1))
    ) else (
      B_X4_costToStay_52 N m (-1 : Int32)
    )
  )
set_option maxRecDepth 100000 in
set_option maxHeartbeats 4000000 in
theorem tr_X4_costToStay {N : Nat} {m m' : Mem} {r : Int32} {x1 : Int32} (hF : F_X4_costToStay N m x1 = some (r, m')) : Tr yX4_costToStay wsX4_costToStay 0 0 [q_r 40, q_i x1] m (some r) m' := by
  refine tr_of (bytes := cX4_costToStay) (maxL := 2) (ret := (some .int)) (by decide) rfl (Nat.le_of_ble_eq_true rfl) (fun K hK hR => ?_)
  have hK : KOK K cX4_costToStay 2 RX4 wsX4_costToStay 0 0 0 := hK
  show AW K 0 0 [(0, q_r 40), (1, q_i x1)] [] m
  unfold F_X4_costToStay at hF
  refine aw_aload_n hK 0 rfl dX4_costToStay_0 ?_
  refine gf_4_3 hK rfl (List.mem_of_getElem? (i := 1) rfl) dX4_costToStay_1 ?_
  refine aw_iconst hK (2) rfl dX4_costToStay_4 ?_
  refine aw_icmp_ne hK 25 rfl dX4_costToStay_5 (fun hc => ?_) (fun hc => ?_)
  · have hF := if_f hF hc
    refine aw_aload_n hK 0 rfl dX4_costToStay_25 ?_
    refine gf_4_6 hK rfl (43) rfl (List.mem_of_getElem? (i := 2) rfl) dX4_costToStay_26 ?_
    refine aw_iload_n hK 1 rfl dX4_costToStay_29 ?_
    obtain ⟨g1, hF⟩ := gd_some hF
    refine aw_iald hK rfl g1 dX4_costToStay_30 ?_
    refine aw_bipush hK (8) rfl dX4_costToStay_31 ?_
    refine aw_icmp_ne hK 51 rfl dX4_costToStay_33 (fun hc => ?_) (fun hc => ?_)
    · have hF := if_f hF hc
      refine aw_iconst hK (-1) rfl dX4_costToStay_51 ?_
      refine aw_sub [] (lv' := []) rfl ?_
      exact bk_X4_costToStay_52 hK hR hF
    · have hF := if_t hF hc
      refine aw_aload_n hK 0 rfl dX4_costToStay_36 ?_
      refine gf_4_2 hK rfl (List.mem_of_getElem? (i := 3) rfl) dX4_costToStay_37 ?_
      obtain ⟨q2, hq2, hF⟩ := bnd_some hF
      obtain ⟨g3, hF⟩ := gd_some hF
      refine aw_nr hq2 ?_
      refine gf_3_0 hK (eq_of_beq g3) (q2 + 1) rfl (List.mem_of_getElem? (i := 4) rfl) dX4_costToStay_40 ?_
      refine gf_0_1 hK (kM1 (eq_of_beq g3)) ((q2 + 1) + 2) rfl (List.mem_of_getElem? (i := 5) rfl) dX4_costToStay_43 ?_
      refine aw_iload_n hK 1 rfl dX4_costToStay_46 ?_
      obtain ⟨g4, hF⟩ := gd_some hF
      refine aw_iald hK (kA2 (kM1 (eq_of_beq g3))) g4 dX4_costToStay_47 ?_
      refine aw_goto hK 52 rfl dX4_costToStay_48 ?_
      refine aw_sub [] (lv' := []) rfl ?_
      exact bk_X4_costToStay_52 hK hR hF
  · have hF := if_t hF hc
    refine aw_aload_n hK 0 rfl dX4_costToStay_8 ?_
    refine gf_4_6 hK rfl (43) rfl (List.mem_of_getElem? (i := 2) rfl) dX4_costToStay_9 ?_
    refine aw_iload_n hK 1 rfl dX4_costToStay_12 ?_
    obtain ⟨g5, hF⟩ := gd_some hF
    refine aw_iald hK rfl g5 dX4_costToStay_13 ?_
    refine aw_bipush hK (8) rfl dX4_costToStay_14 ?_
    refine aw_icmp_ne hK 23 rfl dX4_costToStay_16 (fun hc => ?_) (fun hc => ?_)
    · have hF := if_f hF hc
      refine aw_iconst hK (1) rfl dX4_costToStay_23 ?_
      refine aw_sub [] (lv' := []) rfl ?_
      exact bk_X4_costToStay_24 hK hR hF
    · have hF := if_t hF hc
      refine aw_iconst hK (0) rfl dX4_costToStay_19 ?_
      refine aw_goto hK 24 rfl dX4_costToStay_20 ?_
      refine aw_sub [] (lv' := []) rfl ?_
      exact bk_X4_costToStay_24 hK hR hF
def B_X4_measureStaying_88 (N : Nat) (m : Mem) : Option Mem :=
  some m
set_option maxRecDepth 100000 in
set_option maxHeartbeats 4000000 in
theorem bk_X4_measureStaying_88 {N : Nat} {K : KT} {m' : Mem} (hK : KOK K cX4_measureStaying 5 RX4 wsX4_measureStaying 1 0 23) (hR : KRet K none none m') {m : Mem} (hF : B_X4_measureStaying_88 N m = some m') : AW K 0 88 [] [] m := by
  unfold B_X4_measureStaying_88 at hF
  obtain rfl := Option.some.inj hF
  exact aw_vret hK hR dX4_measureStaying_88
def B_X4_measureStaying_76 (N : Nat) (rec_4 : Mem → Int32 → Int32 → Int32 → Option Mem) (rec_24 : Mem → Int32 → Int32 → Int32 → Int32 → Option Mem) (m : Mem) (x1 : Int32) (x2 : Int32) (x3 : Int32) (x4 : Int32) : Option Mem :=
  bnd (x4 + (1 : Int32)) fun y14 =>
  rec_24 m x1 x2 x3 y14
set_option maxRecDepth 100000 in
set_option maxHeartbeats 4000000 in
theorem bk_X4_measureStaying_76 {N : Nat} {K : KT} {m' : Mem} {rec_4 : Mem → Int32 → Int32 → Int32 → Option Mem} {rec_24 : Mem → Int32 → Int32 → Int32 → Int32 → Option Mem} (hK : KOK K cX4_measureStaying 5 RX4 wsX4_measureStaying 1 0 23) (hR : KRet K none none m') (hrec_4 : ∀ {m : Mem} {x1 : Int32} {x2 : Int32} {x3 : Int32}, rec_4 m x1 x2 x3 = some m' → AW K 0 4 [(0, q_r 40), (1, q_i x1), (2, q_i x2), (3, q_i x3)] [] m) (hrec_24 : ∀ {m : Mem} {x1 : Int32} {x2 : Int32} {x3 : Int32} {x4 : Int32}, rec_24 m x1 x2 x3 x4 = some m' → AW K 0 24 [(0, q_r 40), (1, q_i x1), (2, q_i x2), (3, q_i x3), (4, q_i x4)] [] m) {m : Mem} {x1 : Int32} {x2 : Int32} {x3 : Int32} {x4 : Int32} (hF : B_X4_measureStaying_76 N rec_4 rec_24 m x1 x2 x3 x4 = some m') : AW K 0 76 [(0, q_r 40), (1, q_i x1), (2, q_i x2), (3, q_i x3), (4, q_i x4)] [] m := by
  unfold B_X4_measureStaying_76 at hF
  obtain ⟨y14, hy14, hF⟩ := bnd_some hF
  refine aw_iinc hK (cz := 1) 4 [(4, q_i y14), (0, q_r 40), (1, q_i x1), (2, q_i x2), (3, q_i x3)] (by decide) rfl rfl hy14 rfl dX4_measureStaying_76 ?_
  refine aw_goto hK 24 rfl dX4_measureStaying_79 ?_
  refine aw_sub [1, 2, 3, 4, 0] (lv' := [(0, q_r 40), (1, q_i x1), (2, q_i x2), (3, q_i x3), (4, q_i y14)]) rfl ?_
  exact hrec_24 hF
def S_X4_measureStaying_24 (N : Nat) (rec_4 : Mem → Int32 → Int32 → Int32 → Option Mem) (rec_24 : Mem → Int32 → Int32 → Int32 → Int32 → Option Mem) (m : Mem) (x1 : Int32) (x2 : Int32) (x3 : Int32) (x4 : Int32) : Option Mem :=
  bnd (ix (m 40 2)) fun q3 => gd (knd q3 == 3) <|
  if (m (q3 + 1) 2) ≤ x4 then (
    bnd (x3 + (1 : Int32)) fun y5 =>
    rec_4 m x1 x2 y5
  ) else (
    gd (inb x4 (alen 42)) <|
    cal (F_X4_costToStay N m x4) fun r9 m8 =>
    gd (inb x4 (alen 45)) <|
    cal (F_X4_lessen N m8 (P_X4_cellAt x1 (m 42 (ix x4))) r9 (P_X4_cellAt x1 (m8 45 (ix x4)))) fun r13 m12 =>
    if r13 = (0 : Int32) then (
      B_X4_measureStaying_76 N rec_4 rec_24 m12 x1 x2 x3 x4
    ) else (
      B_X4_measureStaying_76 N rec_4 rec_24 m12 x1 (1 : Int32) x3 x4
    )
  )
def L_X4_measureStaying_24 (N : Nat) (rec_4 : Mem → Int32 → Int32 → Int32 → Option Mem) : Nat → Mem → Int32 → Int32 → Int32 → Int32 → Option Mem
  | 0 => fun _ _ _ _ _ => none
  | f + 1 => S_X4_measureStaying_24 N rec_4 (L_X4_measureStaying_24 N rec_4 f)
set_option maxRecDepth 100000 in
set_option maxHeartbeats 4000000 in
theorem lp_X4_measureStaying_24 {N : Nat} {K : KT} {m' : Mem} {rec_4 : Mem → Int32 → Int32 → Int32 → Option Mem} (hK : KOK K cX4_measureStaying 5 RX4 wsX4_measureStaying 1 0 23) (hR : KRet K none none m') (hrec_4 : ∀ {m : Mem} {x1 : Int32} {x2 : Int32} {x3 : Int32}, rec_4 m x1 x2 x3 = some m' → AW K 0 4 [(0, q_r 40), (1, q_i x1), (2, q_i x2), (3, q_i x3)] [] m) : ∀ (f : Nat) {m : Mem} {x1 : Int32} {x2 : Int32} {x3 : Int32} {x4 : Int32}, L_X4_measureStaying_24 N rec_4 f m x1 x2 x3 x4 = some m' → AW K 0 24 [(0, q_r 40), (1, q_i x1), (2, q_i x2), (3, q_i x3), (4, q_i x4)] [] m := by
  intro f
  induction f with
  | zero => intro m x1 x2 x3 x4 hF; cases hF
  | succ f hrec_24 =>
    intro m x1 x2 x3 x4 hF
    have hF : S_X4_measureStaying_24 N rec_4 (L_X4_measureStaying_24 N rec_4 f) m x1 x2 x3 x4 = some m' := hF
    unfold S_X4_measureStaying_24 at hF
    refine aw_iload hK 4 rfl dX4_measureStaying_24 ?_
    refine aw_aload_n hK 0 rfl dX4_measureStaying_26 ?_
    refine gf_4_2 hK rfl (List.mem_of_getElem? (i := 1) rfl) dX4_measureStaying_27 ?_
    obtain ⟨q3, hq3, hF⟩ := bnd_some hF
    obtain ⟨g4, hF⟩ := gd_some hF
    refine aw_nr hq3 ?_
    refine gf_3_0 hK (eq_of_beq g4) (q3 + 1) rfl (List.mem_of_getElem? (i := 3) rfl) dX4_measureStaying_30 ?_
    refine gf_0_2 hK (kM1 (eq_of_beq g4)) (List.mem_of_getElem? (i := 4) rfl) dX4_measureStaying_33 ?_
    refine aw_icmp_ge hK 82 rfl dX4_measureStaying_36 (fun hc => ?_) (fun hc => ?_)
    · have hF := if_t hF hc
      obtain ⟨y5, hy5, hF⟩ := bnd_some hF
      refine aw_iinc hK (cz := 1) 3 [(3, q_i y5), (0, q_r 40), (1, q_i x1), (2, q_i x2), (4, q_i x4)] (by decide) rfl rfl hy5 rfl dX4_measureStaying_82 ?_
      refine aw_goto hK 4 rfl dX4_measureStaying_85 ?_
      refine aw_sub [1, 2, 3, 0] (lv' := [(0, q_r 40), (1, q_i x1), (2, q_i x2), (3, q_i y5)]) rfl ?_
      exact hrec_4 hF
    · have hF := if_f hF hc
      refine aw_aload_n hK 0 rfl dX4_measureStaying_39 ?_
      refine aw_iload_n hK 1 rfl dX4_measureStaying_40 ?_
      refine aw_aload_n hK 0 rfl dX4_measureStaying_41 ?_
      refine gf_4_5 hK rfl (42) rfl (List.mem_of_getElem? (i := 5) rfl) dX4_measureStaying_42 ?_
      refine aw_iload hK 4 rfl dX4_measureStaying_45 ?_
      obtain ⟨g6, hF⟩ := gd_some hF
      refine aw_iald hK rfl g6 dX4_measureStaying_47 ?_
      refine aw_cs hK (as := [q_i x1, q_i (m 42 (ix x4))]) (trp_X4_cellAt x1 (m 42 (ix x4)) _) gX4_measureStaying_X4_cellAt rfl (na := 2) (by decide +kernel) rfl ⟨by decide, by decide⟩ (Nat.zero_le _) (Nat.le_of_ble_eq_true rfl) dX4_measureStaying_48 ?_
      refine aw_aload_n hK 0 rfl dX4_measureStaying_51 ?_
      refine aw_iload hK 4 rfl dX4_measureStaying_52 ?_
      obtain ⟨r9, m8, h7, hF⟩ := cal_some hF
      refine aw_cv hK 4 (as := [q_i x4]) (tr_X4_costToStay h7) gX4_measureStaying_X4_costToStay rfl rfl rfl (by decide) (na := 1) (by decide +kernel) rfl ⟨by decide, by decide⟩ (Nat.zero_le _) (Nat.le_of_ble_eq_true rfl) dX4_measureStaying_54 ?_
      refine aw_iload_n hK 1 rfl dX4_measureStaying_57 ?_
      refine aw_aload_n hK 0 rfl dX4_measureStaying_58 ?_
      refine gf_4_8 hK rfl (45) rfl (List.mem_of_getElem? (i := 6) rfl) dX4_measureStaying_59 ?_
      refine aw_iload hK 4 rfl dX4_measureStaying_62 ?_
      obtain ⟨g10, hF⟩ := gd_some hF
      refine aw_iald hK rfl g10 dX4_measureStaying_64 ?_
      refine aw_cs hK (as := [q_i x1, q_i (m8 45 (ix x4))]) (trp_X4_cellAt x1 (m8 45 (ix x4)) _) gX4_measureStaying_X4_cellAt rfl (na := 2) (by decide +kernel) rfl ⟨by decide, by decide⟩ (Nat.zero_le _) (Nat.le_of_ble_eq_true rfl) dX4_measureStaying_65 ?_
      obtain ⟨r13, m12, h11, hF⟩ := cal_some hF
      refine aw_cv hK 4 (as := [q_i (P_X4_cellAt x1 (m 42 (ix x4))), q_i r9, q_i (P_X4_cellAt x1 (m8 45 (ix x4)))]) (tr_X4_lessen h11) gX4_measureStaying_X4_lessen rfl rfl rfl (by decide) (na := 3) (by decide +kernel) rfl ⟨by decide, by decide⟩ (Nat.zero_le _) (Nat.le_of_ble_eq_true rfl) dX4_measureStaying_68 ?_
      refine aw_if_eq hK 76 rfl dX4_measureStaying_71 (fun hc => ?_) (fun hc => ?_)
      · have hF := if_t hF hc
        refine aw_sub [0, 1, 2, 3, 4] (lv' := [(0, q_r 40), (1, q_i x1), (2, q_i x2), (3, q_i x3), (4, q_i x4)]) rfl ?_
        exact bk_X4_measureStaying_76 hK hR hrec_4 hrec_24 hF
      · have hF := if_f hF hc
        refine aw_iconst hK (1) rfl dX4_measureStaying_74 ?_
        refine aw_istore_n hK [(2, q_i (1 : Int32)), (0, q_r 40), (1, q_i x1), (3, q_i x3), (4, q_i x4)] (by decide) rfl dX4_measureStaying_75 ?_
        refine aw_sub [1, 2, 0, 3, 4] (lv' := [(0, q_r 40), (1, q_i x1), (2, q_i (1 : Int32)), (3, q_i x3), (4, q_i x4)]) rfl ?_
        exact bk_X4_measureStaying_76 hK hR hrec_4 hrec_24 hF
def S_X4_measureStaying_4 (N : Nat) (rec_4 : Mem → Int32 → Int32 → Int32 → Option Mem) (m : Mem) (x1 : Int32) (x2 : Int32) (x3 : Int32) : Option Mem :=
  if x2 = (0 : Int32) then (
    B_X4_measureStaying_88 N m
  ) else (
    bnd (ix (m 40 2)) fun q1 => gd (knd q1 == 3) <|
    if (m q1 1) ≤ x3 then (
      B_X4_measureStaying_88 N m
    ) else (
      L_X4_measureStaying_24 N rec_4 N m x1 (0 : Int32) x3 (0 : Int32)
    )
  )
def L_X4_measureStaying_4 (N : Nat) : Nat → Mem → Int32 → Int32 → Int32 → Option Mem
  | 0 => fun _ _ _ _ => none
  | f + 1 => S_X4_measureStaying_4 N (L_X4_measureStaying_4 N f)
set_option maxRecDepth 100000 in
set_option maxHeartbeats 4000000 in
theorem lp_X4_measureStaying_4 {N : Nat} {K : KT} {m' : Mem} (hK : KOK K cX4_measureStaying 5 RX4 wsX4_measureStaying 1 0 23) (hR : KRet K none none m') : ∀ (f : Nat) {m : Mem} {x1 : Int32} {x2 : Int32} {x3 : Int32}, L_X4_measureStaying_4 N f m x1 x2 x3 = some m' → AW K 0 4 [(0, q_r 40), (1, q_i x1), (2, q_i x2), (3, q_i x3)] [] m := by
  intro f
  induction f with
  | zero => intro m x1 x2 x3 hF; cases hF
  | succ f hrec_4 =>
    intro m x1 x2 x3 hF
    have hF : S_X4_measureStaying_4 N (L_X4_measureStaying_4 N f) m x1 x2 x3 = some m' := hF
    unfold S_X4_measureStaying_4 at hF
    refine aw_iload_n hK 2 rfl dX4_measureStaying_4 ?_
    refine aw_if_eq hK 88 rfl dX4_measureStaying_5 (fun hc => ?_) (fun hc => ?_)
    · have hF := if_t hF hc
      refine aw_sub [] (lv' := []) rfl ?_
      exact bk_X4_measureStaying_88 hK hR hF
    · have hF := if_f hF hc
      refine aw_iload_n hK 3 rfl dX4_measureStaying_8 ?_
      refine aw_aload_n hK 0 rfl dX4_measureStaying_9 ?_
      refine gf_4_2 hK rfl (List.mem_of_getElem? (i := 1) rfl) dX4_measureStaying_10 ?_
      obtain ⟨q1, hq1, hF⟩ := bnd_some hF
      obtain ⟨g2, hF⟩ := gd_some hF
      refine aw_nr hq1 ?_
      refine gf_3_1 hK (eq_of_beq g2) (List.mem_of_getElem? (i := 2) rfl) dX4_measureStaying_13 ?_
      refine aw_icmp_ge hK 88 rfl dX4_measureStaying_16 (fun hc => ?_) (fun hc => ?_)
      · have hF := if_t hF hc
        refine aw_sub [] (lv' := []) rfl ?_
        exact bk_X4_measureStaying_88 hK hR hF
      · have hF := if_f hF hc
        refine aw_iconst hK (0) rfl dX4_measureStaying_19 ?_
        refine aw_istore_n hK [(2, q_i (0 : Int32)), (0, q_r 40), (1, q_i x1), (3, q_i x3)] (by decide) rfl dX4_measureStaying_20 ?_
        refine aw_iconst hK (0) rfl dX4_measureStaying_21 ?_
        refine aw_istore hK [(4, q_i (0 : Int32)), (2, q_i (0 : Int32)), (0, q_r 40), (1, q_i x1), (3, q_i x3)] (by decide) rfl dX4_measureStaying_22 ?_
        refine aw_sub [2, 3, 1, 4, 0] (lv' := [(0, q_r 40), (1, q_i x1), (2, q_i (0 : Int32)), (3, q_i x3), (4, q_i (0 : Int32))]) rfl ?_
        exact lp_X4_measureStaying_24 hK hR hrec_4 _ hF
def F_X4_measureStaying (N : Nat) (m : Mem) (x1 : Int32) : Option Mem :=
  L_X4_measureStaying_4 N N m x1 (1 : Int32) (0 : Int32)
set_option maxRecDepth 100000 in
set_option maxHeartbeats 4000000 in
theorem tr_X4_measureStaying {N : Nat} {m m' : Mem} {x1 : Int32} (hF : F_X4_measureStaying N m x1 = some m') : Tr yX4_measureStaying wsX4_measureStaying 1 23 [q_r 40, q_i x1] m none m' := by
  refine tr_of (bytes := cX4_measureStaying) (maxL := 5) (ret := none) (by decide) rfl (Nat.le_of_ble_eq_true rfl) (fun K hK hR => ?_)
  have hK : KOK K cX4_measureStaying 5 RX4 wsX4_measureStaying 1 0 23 := hK
  show AW K 0 0 [(0, q_r 40), (1, q_i x1)] [] m
  unfold F_X4_measureStaying at hF
  refine aw_iconst hK (1) rfl dX4_measureStaying_0 ?_
  refine aw_istore_n hK [(2, q_i (1 : Int32)), (0, q_r 40), (1, q_i x1)] (by decide) rfl dX4_measureStaying_1 ?_
  refine aw_iconst hK (0) rfl dX4_measureStaying_2 ?_
  refine aw_istore_n hK [(3, q_i (0 : Int32)), (2, q_i (1 : Int32)), (0, q_r 40), (1, q_i x1)] (by decide) rfl dX4_measureStaying_3 ?_
  refine aw_sub [2, 3, 1, 0] (lv' := [(0, q_r 40), (1, q_i x1), (2, q_i (1 : Int32)), (3, q_i (0 : Int32))]) rfl ?_
  exact lp_X4_measureStaying_4 hK hR _ hF
def B_X4_measure_69 (N : Nat) (rec_5 : Mem → Int32 → Option Mem) (rec_11 : Mem → Int32 → Int32 → Option Mem) (m : Mem) (x1 : Int32) (x2 : Int32) (s0 : Int32) (s1 : Int32) : Option Mem :=
  gd (inb s1 (alen 46)) <|
  bnd (mup m 46 (ix s1) s0) fun m12 =>
  bnd (x2 + (1 : Int32)) fun y13 =>
  rec_11 m12 x1 y13
set_option maxRecDepth 100000 in
set_option maxHeartbeats 4000000 in
theorem bk_X4_measure_69 {N : Nat} {K : KT} {m' : Mem} {rec_5 : Mem → Int32 → Option Mem} {rec_11 : Mem → Int32 → Int32 → Option Mem} (hK : KOK K cX4_measure 4 RX4 wsX4_measure 2 0 47) (hR : KRet K none none m') (hrec_5 : ∀ {m : Mem} {x1 : Int32}, rec_5 m x1 = some m' → AW K 0 5 [(0, q_r 40), (1, q_i x1)] [] m) (hrec_11 : ∀ {m : Mem} {x1 : Int32} {x2 : Int32}, rec_11 m x1 x2 = some m' → AW K 0 11 [(0, q_r 40), (1, q_i x1), (2, q_i x2)] [] m) {m : Mem} {x1 : Int32} {x2 : Int32} {s0 : Int32} {s1 : Int32} (hF : B_X4_measure_69 N rec_5 rec_11 m x1 x2 s0 s1 = some m') : AW K 0 69 [(0, q_r 40), (1, q_i x1), (2, q_i x2)] [q_i s0, q_i s1, q_r 46] m := by
  unfold B_X4_measure_69 at hF
  obtain ⟨g11, hF⟩ := gd_some hF
  refine aw_iast hK rfl g11 dX4_measure_69 ?_
  obtain ⟨m12, hm12, hF⟩ := bnd_some hF
  refine aw_mm hm12 ?_
  obtain ⟨y13, hy13, hF⟩ := bnd_some hF
  refine aw_iinc hK (cz := 1) 2 [(2, q_i y13), (0, q_r 40), (1, q_i x1)] (by decide) rfl rfl hy13 rfl dX4_measure_70 ?_
  refine aw_goto hK 11 rfl dX4_measure_73 ?_
  refine aw_sub [1, 2, 0] (lv' := [(0, q_r 40), (1, q_i x1), (2, q_i y13)]) rfl ?_
  exact hrec_11 hF
def B_X4_measure_49 (N : Nat) (rec_5 : Mem → Int32 → Option Mem) (rec_11 : Mem → Int32 → Int32 → Option Mem) (m : Mem) (x1 : Int32) (x2 : Int32) (s0 : Int32) : Option Mem :=
  if s0 = (0 : Int32) then (
    B_X4_measure_69 N rec_5 rec_11 m x1 x2 (1000000000 : Int32) (P_X4_cellAt x1 x2)
  ) else (
    B_X4_measure_69 N rec_5 rec_11 m x1 x2 (0 : Int32) (P_X4_cellAt x1 x2)
  )
set_option maxRecDepth 100000 in
set_option maxHeartbeats 4000000 in
theorem bk_X4_measure_49 {N : Nat} {K : KT} {m' : Mem} {rec_5 : Mem → Int32 → Option Mem} {rec_11 : Mem → Int32 → Int32 → Option Mem} (hK : KOK K cX4_measure 4 RX4 wsX4_measure 2 0 47) (hR : KRet K none none m') (hrec_5 : ∀ {m : Mem} {x1 : Int32}, rec_5 m x1 = some m' → AW K 0 5 [(0, q_r 40), (1, q_i x1)] [] m) (hrec_11 : ∀ {m : Mem} {x1 : Int32} {x2 : Int32}, rec_11 m x1 x2 = some m' → AW K 0 11 [(0, q_r 40), (1, q_i x1), (2, q_i x2)] [] m) {m : Mem} {x1 : Int32} {x2 : Int32} {s0 : Int32} (hF : B_X4_measure_49 N rec_5 rec_11 m x1 x2 s0 = some m') : AW K 0 49 [(0, q_r 40), (1, q_i x1), (2, q_i x2)] [q_i s0] m := by
  unfold B_X4_measure_49 at hF
  refine aw_istore_n hK [(3, q_i s0), (0, q_r 40), (1, q_i x1), (2, q_i x2)] (by decide) rfl dX4_measure_49 ?_
  refine aw_aload_n hK 1 rfl dX4_measure_50 ?_
  refine gf_4_9 hK rfl (46) rfl (List.mem_of_getElem? (i := 5) rfl) dX4_measure_51 ?_
  refine aw_iload_n hK 2 rfl dX4_measure_54 ?_
  refine aw_iload_n hK 3 rfl dX4_measure_55 ?_
  refine aw_cs hK (as := [q_i x1, q_i x2]) (trp_X4_cellAt x1 x2 _) gX4_measure_X4_cellAt rfl (na := 2) (by decide +kernel) rfl ⟨by decide, by decide⟩ (Nat.zero_le _) (Nat.le_of_ble_eq_true rfl) dX4_measure_56 ?_
  refine aw_iload_n hK 0 rfl dX4_measure_59 ?_
  refine aw_if_eq hK 67 rfl dX4_measure_60 (fun hc => ?_) (fun hc => ?_)
  · have hF := if_t hF hc
    refine aw_ldc hK (1000000000) (List.mem_of_getElem? (i := 6) rfl) dX4_measure_67 ?_
    refine aw_sub [1, 2, 3] (lv' := [(0, q_r 40), (1, q_i x1), (2, q_i x2)]) rfl ?_
    exact bk_X4_measure_69 hK hR hrec_5 hrec_11 hF
  · have hF := if_f hF hc
    refine aw_iconst hK (0) rfl dX4_measure_63 ?_
    refine aw_goto hK 69 rfl dX4_measure_64 ?_
    refine aw_sub [1, 2, 3] (lv' := [(0, q_r 40), (1, q_i x1), (2, q_i x2)]) rfl ?_
    exact bk_X4_measure_69 hK hR hrec_5 hrec_11 hF
def B_X4_measure_48 (N : Nat) (rec_5 : Mem → Int32 → Option Mem) (rec_11 : Mem → Int32 → Int32 → Option Mem) (m : Mem) (x1 : Int32) (x2 : Int32) : Option Mem :=
  B_X4_measure_49 N rec_5 rec_11 m x1 x2 (0 : Int32)
set_option maxRecDepth 100000 in
set_option maxHeartbeats 4000000 in
theorem bk_X4_measure_48 {N : Nat} {K : KT} {m' : Mem} {rec_5 : Mem → Int32 → Option Mem} {rec_11 : Mem → Int32 → Int32 → Option Mem} (hK : KOK K cX4_measure 4 RX4 wsX4_measure 2 0 47) (hR : KRet K none none m') (hrec_5 : ∀ {m : Mem} {x1 : Int32}, rec_5 m x1 = some m' → AW K 0 5 [(0, q_r 40), (1, q_i x1)] [] m) (hrec_11 : ∀ {m : Mem} {x1 : Int32} {x2 : Int32}, rec_11 m x1 x2 = some m' → AW K 0 11 [(0, q_r 40), (1, q_i x1), (2, q_i x2)] [] m) {m : Mem} {x1 : Int32} {x2 : Int32} (hF : B_X4_measure_48 N rec_5 rec_11 m x1 x2 = some m') : AW K 0 48 [(0, q_r 40), (1, q_i x1), (2, q_i x2)] [] m := by
  unfold B_X4_measure_48 at hF
  refine aw_iconst hK (0) rfl dX4_measure_48 ?_
  refine aw_sub [0, 1, 2] (lv' := [(0, q_r 40), (1, q_i x1), (2, q_i x2)]) rfl ?_
  exact bk_X4_measure_49 hK hR hrec_5 hrec_11 hF
def S_X4_measure_11 (N : Nat) (rec_5 : Mem → Int32 → Option Mem) (rec_11 : Mem → Int32 → Int32 → Option Mem) (m : Mem) (x1 : Int32) (x2 : Int32) : Option Mem :=
  bnd (ix (m 40 2)) fun q2 => gd (knd q2 == 3) <|
  if (m q2 1) ≤ x2 then (
    calv (F_X4_measureReading N m x1) fun m5 =>
    calv (F_X4_measureStaying N m5 x1) fun m7 =>
    bnd (x1 + (-1 : Int32)) fun y8 =>
    rec_5 m7 y8
  ) else (
    if x1 = (m 40 1) then (
      bnd (ix (m 40 2)) fun q9 => gd (knd q9 == 3) <|
      if (P_X7_holds (m q9 2) x2) = (0 : Int32) then (
        B_X4_measure_48 N rec_5 rec_11 m x1 x2
      ) else (
        B_X4_measure_49 N rec_5 rec_11 m x1 x2 (1 : Int32)
      )
    ) else (
      B_X4_measure_48 N rec_5 rec_11 m x1 x2
    )
  )
def L_X4_measure_11 (N : Nat) (rec_5 : Mem → Int32 → Option Mem) : Nat → Mem → Int32 → Int32 → Option Mem
  | 0 => fun _ _ _ => none
  | f + 1 => S_X4_measure_11 N rec_5 (L_X4_measure_11 N rec_5 f)
set_option maxRecDepth 100000 in
set_option maxHeartbeats 4000000 in
theorem lp_X4_measure_11 {N : Nat} {K : KT} {m' : Mem} {rec_5 : Mem → Int32 → Option Mem} (hK : KOK K cX4_measure 4 RX4 wsX4_measure 2 0 47) (hR : KRet K none none m') (hrec_5 : ∀ {m : Mem} {x1 : Int32}, rec_5 m x1 = some m' → AW K 0 5 [(0, q_r 40), (1, q_i x1)] [] m) : ∀ (f : Nat) {m : Mem} {x1 : Int32} {x2 : Int32}, L_X4_measure_11 N rec_5 f m x1 x2 = some m' → AW K 0 11 [(0, q_r 40), (1, q_i x1), (2, q_i x2)] [] m := by
  intro f
  induction f with
  | zero => intro m x1 x2 hF; cases hF
  | succ f hrec_11 =>
    intro m x1 x2 hF
    have hF : S_X4_measure_11 N rec_5 (L_X4_measure_11 N rec_5 f) m x1 x2 = some m' := hF
    unfold S_X4_measure_11 at hF
    refine aw_iload_n hK 2 rfl dX4_measure_11 ?_
    refine aw_aload_n hK 0 rfl dX4_measure_12 ?_
    refine gf_4_2 hK rfl (List.mem_of_getElem? (i := 2) rfl) dX4_measure_13 ?_
    obtain ⟨q2, hq2, hF⟩ := bnd_some hF
    obtain ⟨g3, hF⟩ := gd_some hF
    refine aw_nr hq2 ?_
    refine gf_3_1 hK (eq_of_beq g3) (List.mem_of_getElem? (i := 3) rfl) dX4_measure_16 ?_
    refine aw_icmp_ge hK 76 rfl dX4_measure_19 (fun hc => ?_) (fun hc => ?_)
    · have hF := if_t hF hc
      refine aw_aload_n hK 0 rfl dX4_measure_76 ?_
      refine aw_iload_n hK 1 rfl dX4_measure_77 ?_
      obtain ⟨m5, h4, hF⟩ := calv_some hF
      refine aw_cv hK 4 (as := [q_i x1]) (tr_X4_measureReading h4) gX4_measure_X4_measureReading rfl rfl rfl (by decide) (na := 1) (by decide +kernel) rfl ⟨by decide, by decide⟩ (Nat.zero_le _) (Nat.le_of_ble_eq_true rfl) dX4_measure_78 ?_
      refine aw_aload_n hK 0 rfl dX4_measure_81 ?_
      refine aw_iload_n hK 1 rfl dX4_measure_82 ?_
      obtain ⟨m7, h6, hF⟩ := calv_some hF
      refine aw_cv hK 4 (as := [q_i x1]) (tr_X4_measureStaying h6) gX4_measure_X4_measureStaying rfl rfl rfl (by decide) (na := 1) (by decide +kernel) rfl ⟨by decide, by decide⟩ (Nat.zero_le _) (Nat.le_of_ble_eq_true rfl) dX4_measure_83 ?_
      obtain ⟨y8, hy8, hF⟩ := bnd_some hF
      refine aw_iinc hK (cz := -1) 1 [(1, q_i y8), (0, q_r 40), (2, q_i x2)] (by decide) rfl rfl hy8 rfl dX4_measure_86 ?_
      refine aw_goto hK 5 rfl dX4_measure_89 ?_
      refine aw_sub [1, 0] (lv' := [(0, q_r 40), (1, q_i y8)]) rfl ?_
      exact hrec_5 hF
    · have hF := if_f hF hc
      refine aw_iload_n hK 1 rfl dX4_measure_22 ?_
      refine aw_aload_n hK 0 rfl dX4_measure_23 ?_
      refine gf_4_1 hK rfl (List.mem_of_getElem? (i := 1) rfl) dX4_measure_24 ?_
      refine aw_icmp_ne hK 48 rfl dX4_measure_27 (fun hc => ?_) (fun hc => ?_)
      · have hF := if_f hF hc
        refine aw_sub [0, 1, 2] (lv' := [(0, q_r 40), (1, q_i x1), (2, q_i x2)]) rfl ?_
        exact bk_X4_measure_48 hK hR hrec_5 hrec_11 hF
      · have hF := if_t hF hc
        refine aw_aload_n hK 0 rfl dX4_measure_30 ?_
        refine gf_4_2 hK rfl (List.mem_of_getElem? (i := 2) rfl) dX4_measure_31 ?_
        obtain ⟨q9, hq9, hF⟩ := bnd_some hF
        obtain ⟨g10, hF⟩ := gd_some hF
        refine aw_nr hq9 ?_
        refine gf_3_2 hK (eq_of_beq g10) (List.mem_of_getElem? (i := 4) rfl) dX4_measure_34 ?_
        refine aw_iload_n hK 2 rfl dX4_measure_37 ?_
        refine aw_csN hK (as := [q_i (m q9 2), q_i x2]) (host := "AffixWorks") (trp_X7_holds (m q9 2) x2 _) gX4_measure_X7_holds_n113 rfl (List.mem_of_getElem? (i := 20) rfl) (List.mem_of_getElem? (i := 8) rfl) (List.mem_of_getElem? (i := 7) rfl) (na := 2) (by decide +kernel) rfl ⟨by decide, by decide⟩ (Nat.zero_le _) (Nat.le_of_ble_eq_true rfl) dX4_measure_38 ?_
        refine aw_if_eq hK 48 rfl dX4_measure_41 (fun hc => ?_) (fun hc => ?_)
        · have hF := if_t hF hc
          refine aw_sub [0, 1, 2] (lv' := [(0, q_r 40), (1, q_i x1), (2, q_i x2)]) rfl ?_
          exact bk_X4_measure_48 hK hR hrec_5 hrec_11 hF
        · have hF := if_f hF hc
          refine aw_iconst hK (1) rfl dX4_measure_44 ?_
          refine aw_goto hK 49 rfl dX4_measure_45 ?_
          refine aw_sub [0, 1, 2] (lv' := [(0, q_r 40), (1, q_i x1), (2, q_i x2)]) rfl ?_
          exact bk_X4_measure_49 hK hR hrec_5 hrec_11 hF
def S_X4_measure_5 (N : Nat) (rec_5 : Mem → Int32 → Option Mem) (m : Mem) (x1 : Int32) : Option Mem :=
  if x1 < (0 : Int32) then (
    some m
  ) else (
    L_X4_measure_11 N rec_5 N m x1 (0 : Int32)
  )
def L_X4_measure_5 (N : Nat) : Nat → Mem → Int32 → Option Mem
  | 0 => fun _ _ => none
  | f + 1 => S_X4_measure_5 N (L_X4_measure_5 N f)
set_option maxRecDepth 100000 in
set_option maxHeartbeats 4000000 in
theorem lp_X4_measure_5 {N : Nat} {K : KT} {m' : Mem} (hK : KOK K cX4_measure 4 RX4 wsX4_measure 2 0 47) (hR : KRet K none none m') : ∀ (f : Nat) {m : Mem} {x1 : Int32}, L_X4_measure_5 N f m x1 = some m' → AW K 0 5 [(0, q_r 40), (1, q_i x1)] [] m := by
  intro f
  induction f with
  | zero => intro m x1 hF; cases hF
  | succ f hrec_5 =>
    intro m x1 hF
    have hF : S_X4_measure_5 N (L_X4_measure_5 N f) m x1 = some m' := hF
    unfold S_X4_measure_5 at hF
    refine aw_iload_n hK 1 rfl dX4_measure_5 ?_
    refine aw_if_lt hK 92 rfl dX4_measure_6 (fun hc => ?_) (fun hc => ?_)
    · have hF := if_t hF hc
      obtain rfl := Option.some.inj hF
      exact aw_vret hK hR dX4_measure_92
    · have hF := if_f hF hc
      refine aw_iconst hK (0) rfl dX4_measure_9 ?_
      refine aw_istore_n hK [(2, q_i (0 : Int32)), (0, q_r 40), (1, q_i x1)] (by decide) rfl dX4_measure_10 ?_
      refine aw_sub [1, 2, 0] (lv' := [(0, q_r 40), (1, q_i x1), (2, q_i (0 : Int32))]) rfl ?_
      exact lp_X4_measure_11 hK hR hrec_5 _ hF
def F_X4_measure (N : Nat) (m : Mem) : Option Mem :=
  bnd (m 40 1) fun y1 =>
  L_X4_measure_5 N N m y1
set_option maxRecDepth 100000 in
set_option maxHeartbeats 4000000 in
theorem tr_X4_measure {N : Nat} {m m' : Mem} (hF : F_X4_measure N m = some m') : Tr yX4_measure wsX4_measure 2 47 [q_r 40] m none m' := by
  refine tr_of (bytes := cX4_measure) (maxL := 4) (ret := none) (by decide) rfl (Nat.le_of_ble_eq_true rfl) (fun K hK hR => ?_)
  have hK : KOK K cX4_measure 4 RX4 wsX4_measure 2 0 47 := hK
  show AW K 0 0 [(0, q_r 40)] [] m
  unfold F_X4_measure at hF
  refine aw_aload_n hK 0 rfl dX4_measure_0 ?_
  refine gf_4_1 hK rfl (List.mem_of_getElem? (i := 1) rfl) dX4_measure_1 ?_
  obtain ⟨y1, hy1, hF⟩ := bnd_some hF
  refine aw_nm hy1 ?_
  refine aw_istore_n hK [(1, q_i y1), (0, q_r 40)] (by decide) rfl dX4_measure_4 ?_
  refine aw_sub [1, 0] (lv' := [(0, q_r 40), (1, q_i y1)]) rfl ?_
  exact lp_X4_measure_5 hK hR _ hF
def F_X4_begin (N : Nat) (m : Mem) (a1 : Nat) (x3 : Int32) (x4 : Int32) : Option Mem :=
  bnd (mup m 40 2 (nI a1)) fun m1 =>
  bnd (mup m1 40 1 (if (8 : Int32) < (if (nI (alen 1)) < x3 then (nI (alen 1)) else x3) then (8 : Int32) else (if (nI (alen 1)) < x3 then (nI (alen 1)) else x3))) fun m2 =>
  gd (cpok (0 : Int32) (0 : Int32) (m2 40 1) (alen 1) (alen 41)) <|
  bnd (mrw m2 41 (va_cpy (m2 1) (m2 41) (ix (0 : Int32)) (ix (0 : Int32)) (ix (m2 40 1)))) fun m4 =>
  bnd (mup m4 40 3 x4) fun m5 =>
  bnd (mup m5 40 13 (0 : Int32)) fun m6 =>
  calv (F_X4_takeArcsApart N m6) fun m8 =>
  calv (F_X4_measure N m8) fun m10 =>
  some m10
set_option maxRecDepth 100000 in
set_option maxHeartbeats 4000000 in
theorem tr_X4_begin {N : Nat} {m m' : Mem} {a1 : Nat} {x3 : Int32} {x4 : Int32} (hk1 : knd a1 = 3) (hF : F_X4_begin N m a1 x3 x4 = some m') : Tr yX4_begin wsX4_begin 3 70 [q_r 40, q_r a1, q_r 1, q_i x3, q_i x4] m none m' := by
  refine tr_of (bytes := cX4_begin) (maxL := 5) (ret := none) (by decide) rfl (Nat.le_of_ble_eq_true rfl) (fun K hK hR => ?_)
  have hK : KOK K cX4_begin 5 RX4 wsX4_begin 3 0 70 := hK
  show AW K 0 0 [(0, q_r 40), (1, q_r a1), (2, q_r 1), (3, q_i x3), (4, q_i x4)] [] m
  unfold F_X4_begin at hF
  refine aw_aload_n hK 0 rfl dX4_begin_0 ?_
  refine aw_aload_n hK 1 rfl dX4_begin_1 ?_
  refine pf_4_2 hK rfl (knd_lt (by rw [hk1]; decide)) (List.mem_of_getElem? (i := 1) rfl) dX4_begin_2 ?_
  obtain ⟨m1, hm1, hF⟩ := bnd_some hF
  refine aw_mm hm1 ?_
  refine aw_aload_n hK 0 rfl dX4_begin_5 ?_
  refine aw_iload_n hK 3 rfl dX4_begin_6 ?_
  refine aw_aload_n hK 2 rfl dX4_begin_7 ?_
  refine aw_alen hK rfl dX4_begin_8 ?_
  refine aw_mmin hK (List.mem_of_getElem? (i := 2) rfl) (List.mem_of_getElem? (i := 3) rfl) (List.mem_of_getElem? (i := 4) rfl) (List.mem_of_getElem? (i := 5) rfl) ⟨by decide, by decide⟩ (Nat.zero_le _) (Nat.le_of_ble_eq_true rfl) dX4_begin_9 ?_
  refine aw_bipush hK (8) rfl dX4_begin_12 ?_
  refine aw_mmin hK (List.mem_of_getElem? (i := 2) rfl) (List.mem_of_getElem? (i := 3) rfl) (List.mem_of_getElem? (i := 4) rfl) (List.mem_of_getElem? (i := 5) rfl) ⟨by decide, by decide⟩ (Nat.zero_le _) (Nat.le_of_ble_eq_true rfl) dX4_begin_14 ?_
  refine pf_4_1 hK rfl (List.mem_of_getElem? (i := 6) rfl) dX4_begin_17 ?_
  obtain ⟨m2, hm2, hF⟩ := bnd_some hF
  refine aw_mm hm2 ?_
  refine aw_aload_n hK 2 rfl dX4_begin_20 ?_
  refine aw_iconst hK (0) rfl dX4_begin_21 ?_
  refine aw_aload_n hK 0 rfl dX4_begin_22 ?_
  refine gf_4_0 hK rfl (41) rfl (List.mem_of_getElem? (i := 7) rfl) dX4_begin_23 ?_
  refine aw_iconst hK (0) rfl dX4_begin_26 ?_
  refine aw_aload_n hK 0 rfl dX4_begin_27 ?_
  refine gf_4_1 hK rfl (List.mem_of_getElem? (i := 6) rfl) dX4_begin_28 ?_
  obtain ⟨g3, hF⟩ := gd_some hF
  refine aw_copy hK (List.mem_of_getElem? (i := 8) rfl) (List.mem_of_getElem? (i := 9) rfl) (List.mem_of_getElem? (i := 10) rfl) (List.mem_of_getElem? (i := 11) rfl) rfl rfl g3 ⟨by decide, by decide⟩ (Nat.le_of_ble_eq_true rfl) dX4_begin_31 ?_
  obtain ⟨m4, hm4, hF⟩ := bnd_some hF
  refine aw_mm hm4 ?_
  refine aw_aload_n hK 0 rfl dX4_begin_34 ?_
  refine aw_iload hK 4 rfl dX4_begin_35 ?_
  refine pf_4_3 hK rfl (List.mem_of_getElem? (i := 12) rfl) dX4_begin_37 ?_
  obtain ⟨m5, hm5, hF⟩ := bnd_some hF
  refine aw_mm hm5 ?_
  refine aw_aload_n hK 0 rfl dX4_begin_40 ?_
  refine aw_iconst hK (0) rfl dX4_begin_41 ?_
  refine pf_4_13 hK rfl (List.mem_of_getElem? (i := 13) rfl) dX4_begin_42 ?_
  obtain ⟨m6, hm6, hF⟩ := bnd_some hF
  refine aw_mm hm6 ?_
  refine aw_aload_n hK 0 rfl dX4_begin_45 ?_
  obtain ⟨m8, h7, hF⟩ := calv_some hF
  refine aw_cv hK 4 (as := []) (tr_X4_takeArcsApart h7) gX4_begin_X4_takeArcsApart rfl rfl rfl (by decide) (na := 0) (by decide +kernel) rfl ⟨by decide, by decide⟩ (Nat.zero_le _) (Nat.le_of_ble_eq_true rfl) dX4_begin_46 ?_
  refine aw_aload_n hK 0 rfl dX4_begin_49 ?_
  obtain ⟨m10, h9, hF⟩ := calv_some hF
  refine aw_cv hK 4 (as := []) (tr_X4_measure h9) gX4_begin_X4_measure rfl rfl rfl (by decide) (na := 0) (by decide +kernel) rfl ⟨by decide, by decide⟩ (Nat.zero_le _) (Nat.le_of_ble_eq_true rfl) dX4_begin_50 ?_
  obtain rfl := Option.some.inj hF
  exact aw_vret hK hR dX4_begin_53
def B_X7_lookUp_9 (N : Nat) (m : Mem) (x1 : Int32) (s0 : Int32) : Option Mem :=
  gd (inb x1 (alen 2)) <|
  calv (F_X4_begin N m (200 + 4 * ix x1) (m 0 1) s0) fun m3 =>
  some m3
set_option maxRecDepth 100000 in
set_option maxHeartbeats 4000000 in
theorem bk_X7_lookUp_9 {N : Nat} {K : KT} {m' : Mem} (hK : KOK K cX7_lookUp 4 RX7 wsX7_lookUp 4 0 94) (hR : KRet K none none m') {m : Mem} {x1 : Int32} {s0 : Int32} (hF : B_X7_lookUp_9 N m x1 s0 = some m') : AW K 0 9 [(0, q_r 0), (1, q_i x1)] [q_i s0] m := by
  unfold B_X7_lookUp_9 at hF
  refine aw_istore_n hK [(3, q_i s0), (0, q_r 0), (1, q_i x1)] (by decide) rfl dX7_lookUp_9 ?_
  refine aw_aload_n hK 1 rfl dX7_lookUp_10 ?_
  refine gf_7_6 hK rfl (40) rfl (List.mem_of_getElem? (i := 1) rfl) dX7_lookUp_11 ?_
  refine aw_aload_n hK 1 rfl dX7_lookUp_14 ?_
  refine gf_7_2 hK rfl (2) rfl (List.mem_of_getElem? (i := 2) rfl) dX7_lookUp_15 ?_
  refine aw_iload_n hK 2 rfl dX7_lookUp_18 ?_
  obtain ⟨g1, hF⟩ := gd_some hF
  refine aw_aald hK rfl g1 dX7_lookUp_19 ?_
  refine aw_aload_n hK 1 rfl dX7_lookUp_20 ?_
  refine gf_7_0 hK rfl (1) rfl (List.mem_of_getElem? (i := 3) rfl) dX7_lookUp_21 ?_
  refine aw_aload_n hK 1 rfl dX7_lookUp_24 ?_
  refine gf_7_1 hK rfl (List.mem_of_getElem? (i := 4) rfl) dX7_lookUp_25 ?_
  refine aw_iload_n hK 0 rfl dX7_lookUp_28 ?_
  obtain ⟨m3, h2, hF⟩ := calv_some hF
  refine aw_cv hK 4 (as := [q_r (200 + 4 * ix x1), q_r 1, q_i (m 0 1), q_i s0]) (tr_X4_begin (kMi g1) h2) gX7_lookUp_X4_begin rfl rfl rfl (by decide) (na := 4) (by decide +kernel) rfl ⟨by decide, by decide⟩ (Nat.zero_le _) (Nat.le_of_ble_eq_true rfl) dX7_lookUp_29 ?_
  obtain rfl := Option.some.inj hF
  exact aw_vret hK hR dX7_lookUp_32
def F_X7_lookUp (N : Nat) (m : Mem) (x1 : Int32) (x2 : Int32) : Option Mem :=
  if x2 = (0 : Int32) then (
    B_X7_lookUp_9 N m x1 (0 : Int32)
  ) else (
    B_X7_lookUp_9 N m x1 (1 : Int32)
  )
set_option maxRecDepth 100000 in
set_option maxHeartbeats 4000000 in
theorem tr_X7_lookUp {N : Nat} {m m' : Mem} {x1 : Int32} {x2 : Int32} (hF : F_X7_lookUp N m x1 x2 = some m') : Tr yX7_lookUp wsX7_lookUp 4 94 [q_r 0, q_i x1, q_i x2] m none m' := by
  refine tr_of (bytes := cX7_lookUp) (maxL := 4) (ret := none) (by decide) rfl (Nat.le_of_ble_eq_true rfl) (fun K hK hR => ?_)
  have hK : KOK K cX7_lookUp 4 RX7 wsX7_lookUp 4 0 94 := hK
  show AW K 0 0 [(0, q_r 0), (1, q_i x1), (2, q_i x2)] [] m
  unfold F_X7_lookUp at hF
  refine aw_iload_n hK 2 rfl dX7_lookUp_0 ?_
  refine aw_if_eq hK 8 rfl dX7_lookUp_1 (fun hc => ?_) (fun hc => ?_)
  · have hF := if_t hF hc
    refine aw_iconst hK (0) rfl dX7_lookUp_8 ?_
    refine aw_sub [0, 1] (lv' := [(0, q_r 0), (1, q_i x1)]) rfl ?_
    exact bk_X7_lookUp_9 hK hR hF
  · have hF := if_f hF hc
    refine aw_iconst hK (1) rfl dX7_lookUp_4 ?_
    refine aw_goto hK 9 rfl dX7_lookUp_5 ?_
    refine aw_sub [0, 1] (lv' := [(0, q_r 0), (1, q_i x1)]) rfl ?_
    exact bk_X7_lookUp_9 hK hR hF
def S_X4_clearSets_2 (N : Nat) (rec_2 : Mem → Int32 → Int32 → Option Mem) (m : Mem) (x1 : Int32) (x2 : Int32) : Option Mem :=
  if (9 : Int32) ≤ x2 then (
    some m
  ) else (
    gd (inb ((x1 * (9 : Int32)) + x2) (alen 47)) <|
    bnd (mup m 47 (ix ((x1 * (9 : Int32)) + x2)) (0 : Int32)) fun m2 =>
    bnd (x2 + (1 : Int32)) fun y3 =>
    rec_2 m2 x1 y3
  )
def L_X4_clearSets_2 (N : Nat) : Nat → Mem → Int32 → Int32 → Option Mem
  | 0 => fun _ _ _ => none
  | f + 1 => S_X4_clearSets_2 N (L_X4_clearSets_2 N f)
set_option maxRecDepth 100000 in
set_option maxHeartbeats 4000000 in
theorem lp_X4_clearSets_2 {N : Nat} {K : KT} {m' : Mem} (hK : KOK K cX4_clearSets 3 RX4 wsX4_clearSets 0 0 0) (hR : KRet K none none m') : ∀ (f : Nat) {m : Mem} {x1 : Int32} {x2 : Int32}, L_X4_clearSets_2 N f m x1 x2 = some m' → AW K 0 2 [(0, q_r 40), (1, q_i x1), (2, q_i x2)] [] m := by
  intro f
  induction f with
  | zero => intro m x1 x2 hF; cases hF
  | succ f hrec_2 =>
    intro m x1 x2 hF
    have hF : S_X4_clearSets_2 N (L_X4_clearSets_2 N f) m x1 x2 = some m' := hF
    unfold S_X4_clearSets_2 at hF
    refine aw_iload_n hK 2 rfl dX4_clearSets_2 ?_
    refine aw_bipush hK (9) rfl dX4_clearSets_3 ?_
    refine aw_icmp_ge hK 26 rfl dX4_clearSets_5 (fun hc => ?_) (fun hc => ?_)
    · have hF := if_t hF hc
      obtain rfl := Option.some.inj hF
      exact aw_vret hK hR dX4_clearSets_26
    · have hF := if_f hF hc
      refine aw_aload_n hK 0 rfl dX4_clearSets_8 ?_
      refine gf_4_10 hK rfl (47) rfl (List.mem_of_getElem? (i := 1) rfl) dX4_clearSets_9 ?_
      refine aw_iload_n hK 1 rfl dX4_clearSets_12 ?_
      refine aw_bipush hK (9) rfl dX4_clearSets_13 ?_
      refine aw_imul hK dX4_clearSets_15 ?_
      refine aw_iload_n hK 2 rfl dX4_clearSets_16 ?_
      refine aw_iadd hK dX4_clearSets_17 ?_
      refine aw_iconst hK (0) rfl dX4_clearSets_18 ?_
      obtain ⟨g1, hF⟩ := gd_some hF
      refine aw_iast hK rfl g1 dX4_clearSets_19 ?_
      obtain ⟨m2, hm2, hF⟩ := bnd_some hF
      refine aw_mm hm2 ?_
      obtain ⟨y3, hy3, hF⟩ := bnd_some hF
      refine aw_iinc hK (cz := 1) 2 [(2, q_i y3), (0, q_r 40), (1, q_i x1)] (by decide) rfl rfl hy3 rfl dX4_clearSets_20 ?_
      refine aw_goto hK 2 rfl dX4_clearSets_23 ?_
      refine aw_sub [1, 2, 0] (lv' := [(0, q_r 40), (1, q_i x1), (2, q_i y3)]) rfl ?_
      exact hrec_2 hF
def F_X4_clearSets (N : Nat) (m : Mem) (x1 : Int32) : Option Mem :=
  L_X4_clearSets_2 N N m x1 (0 : Int32)
set_option maxRecDepth 100000 in
set_option maxHeartbeats 4000000 in
theorem tr_X4_clearSets {N : Nat} {m m' : Mem} {x1 : Int32} (hF : F_X4_clearSets N m x1 = some m') : Tr yX4_clearSets wsX4_clearSets 0 0 [q_r 40, q_i x1] m none m' := by
  refine tr_of (bytes := cX4_clearSets) (maxL := 3) (ret := none) (by decide) rfl (Nat.le_of_ble_eq_true rfl) (fun K hK hR => ?_)
  have hK : KOK K cX4_clearSets 3 RX4 wsX4_clearSets 0 0 0 := hK
  show AW K 0 0 [(0, q_r 40), (1, q_i x1)] [] m
  unfold F_X4_clearSets at hF
  refine aw_iconst hK (0) rfl dX4_clearSets_0 ?_
  refine aw_istore_n hK [(2, q_i (0 : Int32)), (0, q_r 40), (1, q_i x1)] (by decide) rfl dX4_clearSets_1 ?_
  refine aw_sub [1, 2, 0] (lv' := [(0, q_r 40), (1, q_i x1), (2, q_i (0 : Int32))]) rfl ?_
  exact lp_X4_clearSets_2 hK hR _ hF
def B_X4_isWay_47 (N : Nat) (m : Mem) (s0 : Int32) : Option (Int32 × Mem) :=
  gd (isb s0) <|
  some (s0, m)
set_option maxRecDepth 100000 in
set_option maxHeartbeats 4000000 in
theorem bk_X4_isWay_47 {N : Nat} {K : KT} {m' : Mem} {r : Int32} (hK : KOK K cX4_isWay 4 RX4 wsX4_isWay 0 0 0) (hR : KRet K (some .boolean) (some r) m') {m : Mem} {s0 : Int32} (hF : B_X4_isWay_47 N m s0 = some (r, m')) : AW K 0 47 [] [q_i s0] m := by
  unfold B_X4_isWay_47 at hF
  obtain ⟨g4, hF⟩ := gd_some hF
  obtain ⟨rfl, rfl⟩ := so_inj hF
  exact aw_iret hK hR (isb_narrow g4) dX4_isWay_47
def B_X4_isWay_42 (N : Nat) (m : Mem) : Option (Int32 × Mem) :=
  B_X4_isWay_47 N m (1 : Int32)
set_option maxRecDepth 100000 in
set_option maxHeartbeats 4000000 in
theorem bk_X4_isWay_42 {N : Nat} {K : KT} {m' : Mem} {r : Int32} (hK : KOK K cX4_isWay 4 RX4 wsX4_isWay 0 0 0) (hR : KRet K (some .boolean) (some r) m') {m : Mem} (hF : B_X4_isWay_42 N m = some (r, m')) : AW K 0 42 [] [] m := by
  unfold B_X4_isWay_42 at hF
  refine aw_iconst hK (1) rfl dX4_isWay_42 ?_
  refine aw_goto hK 47 rfl dX4_isWay_43 ?_
  refine aw_sub [] (lv' := []) rfl ?_
  exact bk_X4_isWay_47 hK hR hF
def B_X4_isWay_16 (N : Nat) (m : Mem) : Option (Int32 × Mem) :=
  some ((0 : Int32), m)
set_option maxRecDepth 100000 in
set_option maxHeartbeats 4000000 in
theorem bk_X4_isWay_16 {N : Nat} {K : KT} {m' : Mem} {r : Int32} (hK : KOK K cX4_isWay 4 RX4 wsX4_isWay 0 0 0) (hR : KRet K (some .boolean) (some r) m') {m : Mem} (hF : B_X4_isWay_16 N m = some (r, m')) : AW K 0 16 [] [] m := by
  unfold B_X4_isWay_16 at hF
  refine aw_iconst hK (0) rfl dX4_isWay_16 ?_
  obtain ⟨rfl, rfl⟩ := so_inj hF
  exact aw_iret hK hR rfl dX4_isWay_17
def F_X4_isWay (N : Nat) (m : Mem) (x1 : Int32) (x2 : Int32) (x3 : Int32) : Option (Int32 × Mem) :=
  if x2 = (-1 : Int32) then (
    B_X4_isWay_16 N m
  ) else (
    gd (inb x3 (alen 46)) <|
    if (m 46 (ix x3)) < (1000000000 : Int32) then (
      if (m 40 4) = (0 : Int32) then (
        B_X4_isWay_42 N m
      ) else (
        gd (inb x1 (alen 46)) <|
        gd (inb x3 (alen 46)) <|
        if (m 46 (ix x1)) = ((m 46 (ix x3)) + x2) then (
          B_X4_isWay_42 N m
        ) else (
          B_X4_isWay_47 N m (0 : Int32)
        )
      )
    ) else (
      B_X4_isWay_16 N m
    )
  )
set_option maxRecDepth 100000 in
set_option maxHeartbeats 4000000 in
theorem tr_X4_isWay {N : Nat} {m m' : Mem} {r : Int32} {x1 : Int32} {x2 : Int32} {x3 : Int32} (hF : F_X4_isWay N m x1 x2 x3 = some (r, m')) : Tr yX4_isWay wsX4_isWay 0 0 [q_r 40, q_i x1, q_i x2, q_i x3] m (some r) m' := by
  refine tr_of (bytes := cX4_isWay) (maxL := 4) (ret := (some .boolean)) (by decide) rfl (Nat.le_of_ble_eq_true rfl) (fun K hK hR => ?_)
  have hK : KOK K cX4_isWay 4 RX4 wsX4_isWay 0 0 0 := hK
  show AW K 0 0 [(0, q_r 40), (1, q_i x1), (2, q_i x2), (3, q_i x3)] [] m
  unfold F_X4_isWay at hF
  refine aw_iload_n hK 2 rfl dX4_isWay_0 ?_
  refine aw_iconst hK (-1) rfl dX4_isWay_1 ?_
  refine aw_icmp_eq hK 16 rfl dX4_isWay_2 (fun hc => ?_) (fun hc => ?_)
  · have hF := if_t hF hc
    refine aw_sub [] (lv' := []) rfl ?_
    exact bk_X4_isWay_16 hK hR hF
  · have hF := if_f hF hc
    refine aw_aload_n hK 0 rfl dX4_isWay_5 ?_
    refine gf_4_9 hK rfl (46) rfl (List.mem_of_getElem? (i := 1) rfl) dX4_isWay_6 ?_
    refine aw_iload_n hK 3 rfl dX4_isWay_9 ?_
    obtain ⟨g1, hF⟩ := gd_some hF
    refine aw_iald hK rfl g1 dX4_isWay_10 ?_
    refine aw_ldc hK (1000000000) (List.mem_of_getElem? (i := 2) rfl) dX4_isWay_11 ?_
    refine aw_icmp_lt hK 18 rfl dX4_isWay_13 (fun hc => ?_) (fun hc => ?_)
    · have hF := if_t hF hc
      refine aw_aload_n hK 0 rfl dX4_isWay_18 ?_
      refine gf_4_4 hK rfl (List.mem_of_getElem? (i := 3) rfl) dX4_isWay_19 ?_
      refine aw_if_eq hK 42 rfl dX4_isWay_22 (fun hc => ?_) (fun hc => ?_)
      · have hF := if_t hF hc
        refine aw_sub [] (lv' := []) rfl ?_
        exact bk_X4_isWay_42 hK hR hF
      · have hF := if_f hF hc
        refine aw_aload_n hK 0 rfl dX4_isWay_25 ?_
        refine gf_4_9 hK rfl (46) rfl (List.mem_of_getElem? (i := 1) rfl) dX4_isWay_26 ?_
        refine aw_iload_n hK 1 rfl dX4_isWay_29 ?_
        obtain ⟨g2, hF⟩ := gd_some hF
        refine aw_iald hK rfl g2 dX4_isWay_30 ?_
        refine aw_aload_n hK 0 rfl dX4_isWay_31 ?_
        refine gf_4_9 hK rfl (46) rfl (List.mem_of_getElem? (i := 1) rfl) dX4_isWay_32 ?_
        refine aw_iload_n hK 3 rfl dX4_isWay_35 ?_
        obtain ⟨g3, hF⟩ := gd_some hF
        refine aw_iald hK rfl g3 dX4_isWay_36 ?_
        refine aw_iload_n hK 2 rfl dX4_isWay_37 ?_
        refine aw_iadd hK dX4_isWay_38 ?_
        refine aw_icmp_ne hK 46 rfl dX4_isWay_39 (fun hc => ?_) (fun hc => ?_)
        · have hF := if_f hF hc
          refine aw_iconst hK (0) rfl dX4_isWay_46 ?_
          refine aw_sub [] (lv' := []) rfl ?_
          exact bk_X4_isWay_47 hK hR hF
        · have hF := if_t hF hc
          refine aw_sub [] (lv' := []) rfl ?_
          exact bk_X4_isWay_42 hK hR hF
    · have hF := if_f hF hc
      refine aw_sub [] (lv' := []) rfl ?_
      exact bk_X4_isWay_16 hK hR hF
def B_X4_isWayStaying_55 (N : Nat) (m : Mem) (s0 : Int32) : Option (Int32 × Mem) :=
  gd (isb s0) <|
  some (s0, m)
set_option maxRecDepth 100000 in
set_option maxHeartbeats 4000000 in
theorem bk_X4_isWayStaying_55 {N : Nat} {K : KT} {m' : Mem} {r : Int32} (hK : KOK K cX4_isWayStaying 4 RX4 wsX4_isWayStaying 1 0 23) (hR : KRet K (some .boolean) (some r) m') {m : Mem} {s0 : Int32} (hF : B_X4_isWayStaying_55 N m s0 = some (r, m')) : AW K 0 55 [] [q_i s0] m := by
  unfold B_X4_isWayStaying_55 at hF
  obtain ⟨g11, hF⟩ := gd_some hF
  obtain ⟨rfl, rfl⟩ := so_inj hF
  exact aw_iret hK hR (isb_narrow g11) dX4_isWayStaying_55
def B_X4_isWayStaying_54 (N : Nat) (m : Mem) : Option (Int32 × Mem) :=
  B_X4_isWayStaying_55 N m (0 : Int32)
set_option maxRecDepth 100000 in
set_option maxHeartbeats 4000000 in
theorem bk_X4_isWayStaying_54 {N : Nat} {K : KT} {m' : Mem} {r : Int32} (hK : KOK K cX4_isWayStaying 4 RX4 wsX4_isWayStaying 1 0 23) (hR : KRet K (some .boolean) (some r) m') {m : Mem} (hF : B_X4_isWayStaying_54 N m = some (r, m')) : AW K 0 54 [] [] m := by
  unfold B_X4_isWayStaying_54 at hF
  refine aw_iconst hK (0) rfl dX4_isWayStaying_54 ?_
  refine aw_sub [] (lv' := []) rfl ?_
  exact bk_X4_isWayStaying_55 hK hR hF
def F_X4_isWayStaying (N : Nat) (m : Mem) (x1 : Int32) (x2 : Int32) (x3 : Int32) : Option (Int32 × Mem) :=
  gd (inb x2 (alen 47)) <|
  gd (inb x1 (alen 42)) <|
  if (P_X7_holds (m 47 (ix x2)) (m 42 (ix x1))) = (0 : Int32) then (
    B_X4_isWayStaying_54 N m
  ) else (
    gd (inb x1 (alen 42)) <|
    cal (F_X4_costToStay N m x1) fun r6 m5 =>
    gd (inb x1 (alen 45)) <|
    cal (F_X4_isWay N m5 (P_X4_cellAt x3 (m 42 (ix x1))) r6 (P_X4_cellAt x3 (m5 45 (ix x1)))) fun r10 m9 =>
    if r10 = (0 : Int32) then (
      B_X4_isWayStaying_54 N m9
    ) else (
      B_X4_isWayStaying_55 N m9 (1 : Int32)
    )
  )
set_option maxRecDepth 100000 in
set_option maxHeartbeats 4000000 in
theorem tr_X4_isWayStaying {N : Nat} {m m' : Mem} {r : Int32} {x1 : Int32} {x2 : Int32} {x3 : Int32} (hF : F_X4_isWayStaying N m x1 x2 x3 = some (r, m')) : Tr yX4_isWayStaying wsX4_isWayStaying 1 23 [q_r 40, q_i x1, q_i x2, q_i x3] m (some r) m' := by
  refine tr_of (bytes := cX4_isWayStaying) (maxL := 4) (ret := (some .boolean)) (by decide) rfl (Nat.le_of_ble_eq_true rfl) (fun K hK hR => ?_)
  have hK : KOK K cX4_isWayStaying 4 RX4 wsX4_isWayStaying 1 0 23 := hK
  show AW K 0 0 [(0, q_r 40), (1, q_i x1), (2, q_i x2), (3, q_i x3)] [] m
  unfold F_X4_isWayStaying at hF
  refine aw_aload_n hK 0 rfl dX4_isWayStaying_0 ?_
  refine gf_4_10 hK rfl (47) rfl (List.mem_of_getElem? (i := 1) rfl) dX4_isWayStaying_1 ?_
  refine aw_iload_n hK 2 rfl dX4_isWayStaying_4 ?_
  obtain ⟨g1, hF⟩ := gd_some hF
  refine aw_iald hK rfl g1 dX4_isWayStaying_5 ?_
  refine aw_aload_n hK 0 rfl dX4_isWayStaying_6 ?_
  refine gf_4_5 hK rfl (42) rfl (List.mem_of_getElem? (i := 2) rfl) dX4_isWayStaying_7 ?_
  refine aw_iload_n hK 1 rfl dX4_isWayStaying_10 ?_
  obtain ⟨g2, hF⟩ := gd_some hF
  refine aw_iald hK rfl g2 dX4_isWayStaying_11 ?_
  refine aw_csN hK (as := [q_i (m 47 (ix x2)), q_i (m 42 (ix x1))]) (host := "AffixWorks") (trp_X7_holds (m 47 (ix x2)) (m 42 (ix x1)) _) gX4_isWayStaying_X7_holds_n113 rfl (List.mem_of_getElem? (i := 20) rfl) (List.mem_of_getElem? (i := 5) rfl) (List.mem_of_getElem? (i := 4) rfl) (na := 2) (by decide +kernel) rfl ⟨by decide, by decide⟩ (Nat.zero_le _) (Nat.le_of_ble_eq_true rfl) dX4_isWayStaying_12 ?_
  refine aw_if_eq hK 54 rfl dX4_isWayStaying_15 (fun hc => ?_) (fun hc => ?_)
  · have hF := if_t hF hc
    refine aw_sub [] (lv' := []) rfl ?_
    exact bk_X4_isWayStaying_54 hK hR hF
  · have hF := if_f hF hc
    refine aw_aload_n hK 0 rfl dX4_isWayStaying_18 ?_
    refine aw_iload_n hK 3 rfl dX4_isWayStaying_19 ?_
    refine aw_aload_n hK 0 rfl dX4_isWayStaying_20 ?_
    refine gf_4_5 hK rfl (42) rfl (List.mem_of_getElem? (i := 2) rfl) dX4_isWayStaying_21 ?_
    refine aw_iload_n hK 1 rfl dX4_isWayStaying_24 ?_
    obtain ⟨g3, hF⟩ := gd_some hF
    refine aw_iald hK rfl g3 dX4_isWayStaying_25 ?_
    refine aw_cs hK (as := [q_i x3, q_i (m 42 (ix x1))]) (trp_X4_cellAt x3 (m 42 (ix x1)) _) gX4_isWayStaying_X4_cellAt rfl (na := 2) (by decide +kernel) rfl ⟨by decide, by decide⟩ (Nat.zero_le _) (Nat.le_of_ble_eq_true rfl) dX4_isWayStaying_26 ?_
    refine aw_aload_n hK 0 rfl dX4_isWayStaying_29 ?_
    refine aw_iload_n hK 1 rfl dX4_isWayStaying_30 ?_
    obtain ⟨r6, m5, h4, hF⟩ := cal_some hF
    refine aw_cv hK 4 (as := [q_i x1]) (tr_X4_costToStay h4) gX4_isWayStaying_X4_costToStay rfl rfl rfl (by decide) (na := 1) (by decide +kernel) rfl ⟨by decide, by decide⟩ (Nat.zero_le _) (Nat.le_of_ble_eq_true rfl) dX4_isWayStaying_31 ?_
    refine aw_iload_n hK 3 rfl dX4_isWayStaying_34 ?_
    refine aw_aload_n hK 0 rfl dX4_isWayStaying_35 ?_
    refine gf_4_8 hK rfl (45) rfl (List.mem_of_getElem? (i := 3) rfl) dX4_isWayStaying_36 ?_
    refine aw_iload_n hK 1 rfl dX4_isWayStaying_39 ?_
    obtain ⟨g7, hF⟩ := gd_some hF
    refine aw_iald hK rfl g7 dX4_isWayStaying_40 ?_
    refine aw_cs hK (as := [q_i x3, q_i (m5 45 (ix x1))]) (trp_X4_cellAt x3 (m5 45 (ix x1)) _) gX4_isWayStaying_X4_cellAt rfl (na := 2) (by decide +kernel) rfl ⟨by decide, by decide⟩ (Nat.zero_le _) (Nat.le_of_ble_eq_true rfl) dX4_isWayStaying_41 ?_
    obtain ⟨r10, m9, h8, hF⟩ := cal_some hF
    refine aw_cv hK 4 (as := [q_i (P_X4_cellAt x3 (m 42 (ix x1))), q_i r6, q_i (P_X4_cellAt x3 (m5 45 (ix x1)))]) (tr_X4_isWay h8) gX4_isWayStaying_X4_isWay rfl rfl rfl (by decide) (na := 3) (by decide +kernel) rfl ⟨by decide, by decide⟩ (Nat.zero_le _) (Nat.le_of_ble_eq_true rfl) dX4_isWayStaying_44 ?_
    refine aw_if_eq hK 54 rfl dX4_isWayStaying_47 (fun hc => ?_) (fun hc => ?_)
    · have hF := if_t hF hc
      refine aw_sub [] (lv' := []) rfl ?_
      exact bk_X4_isWayStaying_54 hK hR hF
    · have hF := if_f hF hc
      refine aw_iconst hK (1) rfl dX4_isWayStaying_50 ?_
      refine aw_goto hK 55 rfl dX4_isWayStaying_51 ?_
      refine aw_sub [] (lv' := []) rfl ?_
      exact bk_X4_isWayStaying_55 hK hR hF
def B_X4_spreadStaying_115 (N : Nat) (m : Mem) : Option Mem :=
  some m
set_option maxRecDepth 100000 in
set_option maxHeartbeats 4000000 in
theorem bk_X4_spreadStaying_115 {N : Nat} {K : KT} {m' : Mem} (hK : KOK K cX4_spreadStaying 6 RX4 wsX4_spreadStaying 2 0 46) (hR : KRet K none none m') {m : Mem} (hF : B_X4_spreadStaying_115 N m = some m') : AW K 0 115 [] [] m := by
  unfold B_X4_spreadStaying_115 at hF
  obtain rfl := Option.some.inj hF
  exact aw_vret hK hR dX4_spreadStaying_115
def B_X4_spreadStaying_103 (N : Nat) (rec_5 : Mem → Int32 → Int32 → Int32 → Int32 → Option Mem) (rec_26 : Mem → Int32 → Int32 → Int32 → Int32 → Int32 → Option Mem) (m : Mem) (x1 : Int32) (x2 : Int32) (x3 : Int32) (x4 : Int32) (x5 : Int32) : Option Mem :=
  bnd (x5 + (1 : Int32)) fun y16 =>
  rec_26 m x1 x2 x3 x4 y16
set_option maxRecDepth 100000 in
set_option maxHeartbeats 4000000 in
theorem bk_X4_spreadStaying_103 {N : Nat} {K : KT} {m' : Mem} {rec_5 : Mem → Int32 → Int32 → Int32 → Int32 → Option Mem} {rec_26 : Mem → Int32 → Int32 → Int32 → Int32 → Int32 → Option Mem} (hK : KOK K cX4_spreadStaying 6 RX4 wsX4_spreadStaying 2 0 46) (hR : KRet K none none m') (hrec_5 : ∀ {m : Mem} {x1 : Int32} {x2 : Int32} {x3 : Int32} {x4 : Int32}, rec_5 m x1 x2 x3 x4 = some m' → AW K 0 5 [(0, q_r 40), (1, q_i x1), (2, q_i x2), (3, q_i x3), (4, q_i x4)] [] m) (hrec_26 : ∀ {m : Mem} {x1 : Int32} {x2 : Int32} {x3 : Int32} {x4 : Int32} {x5 : Int32}, rec_26 m x1 x2 x3 x4 x5 = some m' → AW K 0 26 [(0, q_r 40), (1, q_i x1), (2, q_i x2), (3, q_i x3), (4, q_i x4), (5, q_i x5)] [] m) {m : Mem} {x1 : Int32} {x2 : Int32} {x3 : Int32} {x4 : Int32} {x5 : Int32} (hF : B_X4_spreadStaying_103 N rec_5 rec_26 m x1 x2 x3 x4 x5 = some m') : AW K 0 103 [(0, q_r 40), (1, q_i x1), (2, q_i x2), (3, q_i x3), (4, q_i x4), (5, q_i x5)] [] m := by
  unfold B_X4_spreadStaying_103 at hF
  obtain ⟨y16, hy16, hF⟩ := bnd_some hF
  refine aw_iinc hK (cz := 1) 5 [(5, q_i y16), (0, q_r 40), (1, q_i x1), (2, q_i x2), (3, q_i x3), (4, q_i x4)] (by decide) rfl rfl hy16 rfl dX4_spreadStaying_103 ?_
  refine aw_goto hK 26 rfl dX4_spreadStaying_106 ?_
  refine aw_sub [1, 2, 3, 4, 5, 0] (lv' := [(0, q_r 40), (1, q_i x1), (2, q_i x2), (3, q_i x3), (4, q_i x4), (5, q_i y16)]) rfl ?_
  exact hrec_26 hF
def S_X4_spreadStaying_26 (N : Nat) (rec_5 : Mem → Int32 → Int32 → Int32 → Int32 → Option Mem) (rec_26 : Mem → Int32 → Int32 → Int32 → Int32 → Int32 → Option Mem) (m : Mem) (x1 : Int32) (x2 : Int32) (x3 : Int32) (x4 : Int32) (x5 : Int32) : Option Mem :=
  bnd (ix (m 40 2)) fun q3 => gd (knd q3 == 3) <|
  if (m (q3 + 1) 2) ≤ x5 then (
    bnd (x4 + (1 : Int32)) fun y5 =>
    rec_5 m x1 x2 x3 y5
  ) else (
    gd (inb x5 (alen 44)) <|
    if (m 44 (ix x5)) = (8 : Int32) then (
      gd (inb x1 (alen 47)) <|
      gd (inb x5 (alen 45)) <|
      if (P_X7_holds (m 47 (ix x1)) (m 45 (ix x5))) = (0 : Int32) then (
        cal (F_X4_isWayStaying N m x5 x1 x2) fun r11 m10 =>
        if r11 = (0 : Int32) then (
          B_X4_spreadStaying_103 N rec_5 rec_26 m10 x1 x2 x3 x4 x5
        ) else (
          gd (inb x1 (alen 47)) <|
          gd (inb x5 (alen 45)) <|
          gd (inb x1 (alen 47)) <|
          bnd (mup m10 47 (ix x1) ((m10 47 (ix x1)) ||| (q_shl (1 : Int32) (m10 45 (ix x5))))) fun m15 =>
          B_X4_spreadStaying_103 N rec_5 rec_26 m15 x1 x2 (1 : Int32) x4 x5
        )
      ) else (
        B_X4_spreadStaying_103 N rec_5 rec_26 m x1 x2 x3 x4 x5
      )
    ) else (
      B_X4_spreadStaying_103 N rec_5 rec_26 m x1 x2 x3 x4 x5
    )
  )
def L_X4_spreadStaying_26 (N : Nat) (rec_5 : Mem → Int32 → Int32 → Int32 → Int32 → Option Mem) : Nat → Mem → Int32 → Int32 → Int32 → Int32 → Int32 → Option Mem
  | 0 => fun _ _ _ _ _ _ => none
  | f + 1 => S_X4_spreadStaying_26 N rec_5 (L_X4_spreadStaying_26 N rec_5 f)
set_option maxRecDepth 100000 in
set_option maxHeartbeats 4000000 in
theorem lp_X4_spreadStaying_26 {N : Nat} {K : KT} {m' : Mem} {rec_5 : Mem → Int32 → Int32 → Int32 → Int32 → Option Mem} (hK : KOK K cX4_spreadStaying 6 RX4 wsX4_spreadStaying 2 0 46) (hR : KRet K none none m') (hrec_5 : ∀ {m : Mem} {x1 : Int32} {x2 : Int32} {x3 : Int32} {x4 : Int32}, rec_5 m x1 x2 x3 x4 = some m' → AW K 0 5 [(0, q_r 40), (1, q_i x1), (2, q_i x2), (3, q_i x3), (4, q_i x4)] [] m) : ∀ (f : Nat) {m : Mem} {x1 : Int32} {x2 : Int32} {x3 : Int32} {x4 : Int32} {x5 : Int32}, L_X4_spreadStaying_26 N rec_5 f m x1 x2 x3 x4 x5 = some m' → AW K 0 26 [(0, q_r 40), (1, q_i x1), (2, q_i x2), (3, q_i x3), (4, q_i x4), (5, q_i x5)] [] m := by
  intro f
  induction f with
  | zero => intro m x1 x2 x3 x4 x5 hF; cases hF
  | succ f hrec_26 =>
    intro m x1 x2 x3 x4 x5 hF
    have hF : S_X4_spreadStaying_26 N rec_5 (L_X4_spreadStaying_26 N rec_5 f) m x1 x2 x3 x4 x5 = some m' := hF
    unfold S_X4_spreadStaying_26 at hF
    refine aw_iload hK 5 rfl dX4_spreadStaying_26 ?_
    refine aw_aload_n hK 0 rfl dX4_spreadStaying_28 ?_
    refine gf_4_2 hK rfl (List.mem_of_getElem? (i := 1) rfl) dX4_spreadStaying_29 ?_
    obtain ⟨q3, hq3, hF⟩ := bnd_some hF
    obtain ⟨g4, hF⟩ := gd_some hF
    refine aw_nr hq3 ?_
    refine gf_3_0 hK (eq_of_beq g4) (q3 + 1) rfl (List.mem_of_getElem? (i := 3) rfl) dX4_spreadStaying_32 ?_
    refine gf_0_2 hK (kM1 (eq_of_beq g4)) (List.mem_of_getElem? (i := 4) rfl) dX4_spreadStaying_35 ?_
    refine aw_icmp_ge hK 109 rfl dX4_spreadStaying_38 (fun hc => ?_) (fun hc => ?_)
    · have hF := if_t hF hc
      obtain ⟨y5, hy5, hF⟩ := bnd_some hF
      refine aw_iinc hK (cz := 1) 4 [(4, q_i y5), (0, q_r 40), (1, q_i x1), (2, q_i x2), (3, q_i x3), (5, q_i x5)] (by decide) rfl rfl hy5 rfl dX4_spreadStaying_109 ?_
      refine aw_goto hK 5 rfl dX4_spreadStaying_112 ?_
      refine aw_sub [1, 2, 3, 4, 0] (lv' := [(0, q_r 40), (1, q_i x1), (2, q_i x2), (3, q_i x3), (4, q_i y5)]) rfl ?_
      exact hrec_5 hF
    · have hF := if_f hF hc
      refine aw_aload_n hK 0 rfl dX4_spreadStaying_41 ?_
      refine gf_4_7 hK rfl (44) rfl (List.mem_of_getElem? (i := 5) rfl) dX4_spreadStaying_42 ?_
      refine aw_iload hK 5 rfl dX4_spreadStaying_45 ?_
      obtain ⟨g6, hF⟩ := gd_some hF
      refine aw_iald hK rfl g6 dX4_spreadStaying_47 ?_
      refine aw_bipush hK (8) rfl dX4_spreadStaying_48 ?_
      refine aw_icmp_ne hK 103 rfl dX4_spreadStaying_50 (fun hc => ?_) (fun hc => ?_)
      · have hF := if_f hF hc
        refine aw_sub [0, 1, 2, 3, 4, 5] (lv' := [(0, q_r 40), (1, q_i x1), (2, q_i x2), (3, q_i x3), (4, q_i x4), (5, q_i x5)]) rfl ?_
        exact bk_X4_spreadStaying_103 hK hR hrec_5 hrec_26 hF
      · have hF := if_t hF hc
        refine aw_aload_n hK 0 rfl dX4_spreadStaying_53 ?_
        refine gf_4_10 hK rfl (47) rfl (List.mem_of_getElem? (i := 6) rfl) dX4_spreadStaying_54 ?_
        refine aw_iload_n hK 1 rfl dX4_spreadStaying_57 ?_
        obtain ⟨g7, hF⟩ := gd_some hF
        refine aw_iald hK rfl g7 dX4_spreadStaying_58 ?_
        refine aw_aload_n hK 0 rfl dX4_spreadStaying_59 ?_
        refine gf_4_8 hK rfl (45) rfl (List.mem_of_getElem? (i := 7) rfl) dX4_spreadStaying_60 ?_
        refine aw_iload hK 5 rfl dX4_spreadStaying_63 ?_
        obtain ⟨g8, hF⟩ := gd_some hF
        refine aw_iald hK rfl g8 dX4_spreadStaying_65 ?_
        refine aw_csN hK (as := [q_i (m 47 (ix x1)), q_i (m 45 (ix x5))]) (host := "AffixWorks") (trp_X7_holds (m 47 (ix x1)) (m 45 (ix x5)) _) gX4_spreadStaying_X7_holds_n113 rfl (List.mem_of_getElem? (i := 20) rfl) (List.mem_of_getElem? (i := 9) rfl) (List.mem_of_getElem? (i := 8) rfl) (na := 2) (by decide +kernel) rfl ⟨by decide, by decide⟩ (Nat.zero_le _) (Nat.le_of_ble_eq_true rfl) dX4_spreadStaying_66 ?_
        refine aw_if_ne hK 103 rfl dX4_spreadStaying_69 (fun hc => ?_) (fun hc => ?_)
        · have hF := if_f hF hc
          refine aw_sub [0, 1, 2, 3, 4, 5] (lv' := [(0, q_r 40), (1, q_i x1), (2, q_i x2), (3, q_i x3), (4, q_i x4), (5, q_i x5)]) rfl ?_
          exact bk_X4_spreadStaying_103 hK hR hrec_5 hrec_26 hF
        · have hF := if_t hF hc
          refine aw_aload_n hK 0 rfl dX4_spreadStaying_72 ?_
          refine aw_iload hK 5 rfl dX4_spreadStaying_73 ?_
          refine aw_iload_n hK 1 rfl dX4_spreadStaying_75 ?_
          refine aw_iload_n hK 2 rfl dX4_spreadStaying_76 ?_
          obtain ⟨r11, m10, h9, hF⟩ := cal_some hF
          refine aw_cv hK 4 (as := [q_i x5, q_i x1, q_i x2]) (tr_X4_isWayStaying h9) gX4_spreadStaying_X4_isWayStaying rfl rfl rfl (by decide) (na := 3) (by decide +kernel) rfl ⟨by decide, by decide⟩ (Nat.zero_le _) (Nat.le_of_ble_eq_true rfl) dX4_spreadStaying_77 ?_
          refine aw_if_eq hK 103 rfl dX4_spreadStaying_80 (fun hc => ?_) (fun hc => ?_)
          · have hF := if_t hF hc
            refine aw_sub [0, 1, 2, 3, 4, 5] (lv' := [(0, q_r 40), (1, q_i x1), (2, q_i x2), (3, q_i x3), (4, q_i x4), (5, q_i x5)]) rfl ?_
            exact bk_X4_spreadStaying_103 hK hR hrec_5 hrec_26 hF
          · have hF := if_f hF hc
            refine aw_aload_n hK 0 rfl dX4_spreadStaying_83 ?_
            refine gf_4_10 hK rfl (47) rfl (List.mem_of_getElem? (i := 6) rfl) dX4_spreadStaying_84 ?_
            refine aw_iload_n hK 1 rfl dX4_spreadStaying_87 ?_
            refine aw_dup2 hK rfl rfl dX4_spreadStaying_88 ?_
            obtain ⟨g12, hF⟩ := gd_some hF
            refine aw_iald hK rfl g12 dX4_spreadStaying_89 ?_
            refine aw_iconst hK (1) rfl dX4_spreadStaying_90 ?_
            refine aw_aload_n hK 0 rfl dX4_spreadStaying_91 ?_
            refine gf_4_8 hK rfl (45) rfl (List.mem_of_getElem? (i := 7) rfl) dX4_spreadStaying_92 ?_
            refine aw_iload hK 5 rfl dX4_spreadStaying_95 ?_
            obtain ⟨g13, hF⟩ := gd_some hF
            refine aw_iald hK rfl g13 dX4_spreadStaying_97 ?_
            refine aw_ishl hK dX4_spreadStaying_98 ?_
            refine aw_ior hK dX4_spreadStaying_99 ?_
            obtain ⟨g14, hF⟩ := gd_some hF
            refine aw_iast hK rfl g14 dX4_spreadStaying_100 ?_
            obtain ⟨m15, hm15, hF⟩ := bnd_some hF
            refine aw_mm hm15 ?_
            refine aw_iconst hK (1) rfl dX4_spreadStaying_101 ?_
            refine aw_istore_n hK [(3, q_i (1 : Int32)), (0, q_r 40), (1, q_i x1), (2, q_i x2), (4, q_i x4), (5, q_i x5)] (by decide) rfl dX4_spreadStaying_102 ?_
            refine aw_sub [1, 2, 3, 0, 4, 5] (lv' := [(0, q_r 40), (1, q_i x1), (2, q_i x2), (3, q_i (1 : Int32)), (4, q_i x4), (5, q_i x5)]) rfl ?_
            exact bk_X4_spreadStaying_103 hK hR hrec_5 hrec_26 hF
def S_X4_spreadStaying_5 (N : Nat) (rec_5 : Mem → Int32 → Int32 → Int32 → Int32 → Option Mem) (m : Mem) (x1 : Int32) (x2 : Int32) (x3 : Int32) (x4 : Int32) : Option Mem :=
  if x3 = (0 : Int32) then (
    B_X4_spreadStaying_115 N m
  ) else (
    bnd (ix (m 40 2)) fun q1 => gd (knd q1 == 3) <|
    if (m q1 1) ≤ x4 then (
      B_X4_spreadStaying_115 N m
    ) else (
      L_X4_spreadStaying_26 N rec_5 N m x1 x2 (0 : Int32) x4 (0 : Int32)
    )
  )
def L_X4_spreadStaying_5 (N : Nat) : Nat → Mem → Int32 → Int32 → Int32 → Int32 → Option Mem
  | 0 => fun _ _ _ _ _ => none
  | f + 1 => S_X4_spreadStaying_5 N (L_X4_spreadStaying_5 N f)
set_option maxRecDepth 100000 in
set_option maxHeartbeats 4000000 in
theorem lp_X4_spreadStaying_5 {N : Nat} {K : KT} {m' : Mem} (hK : KOK K cX4_spreadStaying 6 RX4 wsX4_spreadStaying 2 0 46) (hR : KRet K none none m') : ∀ (f : Nat) {m : Mem} {x1 : Int32} {x2 : Int32} {x3 : Int32} {x4 : Int32}, L_X4_spreadStaying_5 N f m x1 x2 x3 x4 = some m' → AW K 0 5 [(0, q_r 40), (1, q_i x1), (2, q_i x2), (3, q_i x3), (4, q_i x4)] [] m := by
  intro f
  induction f with
  | zero => intro m x1 x2 x3 x4 hF; cases hF
  | succ f hrec_5 =>
    intro m x1 x2 x3 x4 hF
    have hF : S_X4_spreadStaying_5 N (L_X4_spreadStaying_5 N f) m x1 x2 x3 x4 = some m' := hF
    unfold S_X4_spreadStaying_5 at hF
    refine aw_iload_n hK 3 rfl dX4_spreadStaying_5 ?_
    refine aw_if_eq hK 115 rfl dX4_spreadStaying_6 (fun hc => ?_) (fun hc => ?_)
    · have hF := if_t hF hc
      refine aw_sub [] (lv' := []) rfl ?_
      exact bk_X4_spreadStaying_115 hK hR hF
    · have hF := if_f hF hc
      refine aw_iload hK 4 rfl dX4_spreadStaying_9 ?_
      refine aw_aload_n hK 0 rfl dX4_spreadStaying_11 ?_
      refine gf_4_2 hK rfl (List.mem_of_getElem? (i := 1) rfl) dX4_spreadStaying_12 ?_
      obtain ⟨q1, hq1, hF⟩ := bnd_some hF
      obtain ⟨g2, hF⟩ := gd_some hF
      refine aw_nr hq1 ?_
      refine gf_3_1 hK (eq_of_beq g2) (List.mem_of_getElem? (i := 2) rfl) dX4_spreadStaying_15 ?_
      refine aw_icmp_ge hK 115 rfl dX4_spreadStaying_18 (fun hc => ?_) (fun hc => ?_)
      · have hF := if_t hF hc
        refine aw_sub [] (lv' := []) rfl ?_
        exact bk_X4_spreadStaying_115 hK hR hF
      · have hF := if_f hF hc
        refine aw_iconst hK (0) rfl dX4_spreadStaying_21 ?_
        refine aw_istore_n hK [(3, q_i (0 : Int32)), (0, q_r 40), (1, q_i x1), (2, q_i x2), (4, q_i x4)] (by decide) rfl dX4_spreadStaying_22 ?_
        refine aw_iconst hK (0) rfl dX4_spreadStaying_23 ?_
        refine aw_istore hK [(5, q_i (0 : Int32)), (3, q_i (0 : Int32)), (0, q_r 40), (1, q_i x1), (2, q_i x2), (4, q_i x4)] (by decide) rfl dX4_spreadStaying_24 ?_
        refine aw_sub [2, 3, 4, 1, 5, 0] (lv' := [(0, q_r 40), (1, q_i x1), (2, q_i x2), (3, q_i (0 : Int32)), (4, q_i x4), (5, q_i (0 : Int32))]) rfl ?_
        exact lp_X4_spreadStaying_26 hK hR hrec_5 _ hF
def F_X4_spreadStaying (N : Nat) (m : Mem) (x1 : Int32) (x2 : Int32) : Option Mem :=
  L_X4_spreadStaying_5 N N m x1 x2 (1 : Int32) (0 : Int32)
set_option maxRecDepth 100000 in
set_option maxHeartbeats 4000000 in
theorem tr_X4_spreadStaying {N : Nat} {m m' : Mem} {x1 : Int32} {x2 : Int32} (hF : F_X4_spreadStaying N m x1 x2 = some m') : Tr yX4_spreadStaying wsX4_spreadStaying 2 46 [q_r 40, q_i x1, q_i x2] m none m' := by
  refine tr_of (bytes := cX4_spreadStaying) (maxL := 6) (ret := none) (by decide) rfl (Nat.le_of_ble_eq_true rfl) (fun K hK hR => ?_)
  have hK : KOK K cX4_spreadStaying 6 RX4 wsX4_spreadStaying 2 0 46 := hK
  show AW K 0 0 [(0, q_r 40), (1, q_i x1), (2, q_i x2)] [] m
  unfold F_X4_spreadStaying at hF
  refine aw_iconst hK (1) rfl dX4_spreadStaying_0 ?_
  refine aw_istore_n hK [(3, q_i (1 : Int32)), (0, q_r 40), (1, q_i x1), (2, q_i x2)] (by decide) rfl dX4_spreadStaying_1 ?_
  refine aw_iconst hK (0) rfl dX4_spreadStaying_2 ?_
  refine aw_istore hK [(4, q_i (0 : Int32)), (3, q_i (1 : Int32)), (0, q_r 40), (1, q_i x1), (2, q_i x2)] (by decide) rfl dX4_spreadStaying_3 ?_
  refine aw_sub [2, 3, 4, 1, 0] (lv' := [(0, q_r 40), (1, q_i x1), (2, q_i x2), (3, q_i (1 : Int32)), (4, q_i (0 : Int32))]) rfl ?_
  exact lp_X4_spreadStaying_5 hK hR _ hF
def B_X4_isWayReading_58 (N : Nat) (m : Mem) (s0 : Int32) : Option (Int32 × Mem) :=
  gd (isb s0) <|
  some (s0, m)
set_option maxRecDepth 100000 in
set_option maxHeartbeats 4000000 in
theorem bk_X4_isWayReading_58 {N : Nat} {K : KT} {m' : Mem} {r : Int32} (hK : KOK K cX4_isWayReading 4 RX4 wsX4_isWayReading 1 0 23) (hR : KRet K (some .boolean) (some r) m') {m : Mem} {s0 : Int32} (hF : B_X4_isWayReading_58 N m s0 = some (r, m')) : AW K 0 58 [] [q_i s0] m := by
  unfold B_X4_isWayReading_58 at hF
  obtain ⟨g11, hF⟩ := gd_some hF
  obtain ⟨rfl, rfl⟩ := so_inj hF
  exact aw_iret hK hR (isb_narrow g11) dX4_isWayReading_58
def B_X4_isWayReading_57 (N : Nat) (m : Mem) : Option (Int32 × Mem) :=
  B_X4_isWayReading_58 N m (0 : Int32)
set_option maxRecDepth 100000 in
set_option maxHeartbeats 4000000 in
theorem bk_X4_isWayReading_57 {N : Nat} {K : KT} {m' : Mem} {r : Int32} (hK : KOK K cX4_isWayReading 4 RX4 wsX4_isWayReading 1 0 23) (hR : KRet K (some .boolean) (some r) m') {m : Mem} (hF : B_X4_isWayReading_57 N m = some (r, m')) : AW K 0 57 [] [] m := by
  unfold B_X4_isWayReading_57 at hF
  refine aw_iconst hK (0) rfl dX4_isWayReading_57 ?_
  refine aw_sub [] (lv' := []) rfl ?_
  exact bk_X4_isWayReading_58 hK hR hF
def F_X4_isWayReading (N : Nat) (m : Mem) (x1 : Int32) (x2 : Int32) (x3 : Int32) : Option (Int32 × Mem) :=
  gd (inb x2 (alen 47)) <|
  gd (inb x1 (alen 42)) <|
  if (P_X7_holds (m 47 (ix x2)) (m 42 (ix x1))) = (0 : Int32) then (
    B_X4_isWayReading_57 N m
  ) else (
    gd (inb x1 (alen 42)) <|
    cal (F_X4_costToRead N m x1 x3) fun r6 m5 =>
    gd (inb x1 (alen 45)) <|
    cal (F_X4_isWay N m5 (P_X4_cellAt x3 (m 42 (ix x1))) r6 (P_X4_cellAt (x3 + (1 : Int32)) (m5 45 (ix x1)))) fun r10 m9 =>
    if r10 = (0 : Int32) then (
      B_X4_isWayReading_57 N m9
    ) else (
      B_X4_isWayReading_58 N m9 (1 : Int32)
    )
  )
set_option maxRecDepth 100000 in
set_option maxHeartbeats 4000000 in
theorem tr_X4_isWayReading {N : Nat} {m m' : Mem} {r : Int32} {x1 : Int32} {x2 : Int32} {x3 : Int32} (hF : F_X4_isWayReading N m x1 x2 x3 = some (r, m')) : Tr yX4_isWayReading wsX4_isWayReading 1 23 [q_r 40, q_i x1, q_i x2, q_i x3] m (some r) m' := by
  refine tr_of (bytes := cX4_isWayReading) (maxL := 4) (ret := (some .boolean)) (by decide) rfl (Nat.le_of_ble_eq_true rfl) (fun K hK hR => ?_)
  have hK : KOK K cX4_isWayReading 4 RX4 wsX4_isWayReading 1 0 23 := hK
  show AW K 0 0 [(0, q_r 40), (1, q_i x1), (2, q_i x2), (3, q_i x3)] [] m
  unfold F_X4_isWayReading at hF
  refine aw_aload_n hK 0 rfl dX4_isWayReading_0 ?_
  refine gf_4_10 hK rfl (47) rfl (List.mem_of_getElem? (i := 1) rfl) dX4_isWayReading_1 ?_
  refine aw_iload_n hK 2 rfl dX4_isWayReading_4 ?_
  obtain ⟨g1, hF⟩ := gd_some hF
  refine aw_iald hK rfl g1 dX4_isWayReading_5 ?_
  refine aw_aload_n hK 0 rfl dX4_isWayReading_6 ?_
  refine gf_4_5 hK rfl (42) rfl (List.mem_of_getElem? (i := 2) rfl) dX4_isWayReading_7 ?_
  refine aw_iload_n hK 1 rfl dX4_isWayReading_10 ?_
  obtain ⟨g2, hF⟩ := gd_some hF
  refine aw_iald hK rfl g2 dX4_isWayReading_11 ?_
  refine aw_csN hK (as := [q_i (m 47 (ix x2)), q_i (m 42 (ix x1))]) (host := "AffixWorks") (trp_X7_holds (m 47 (ix x2)) (m 42 (ix x1)) _) gX4_isWayReading_X7_holds_n113 rfl (List.mem_of_getElem? (i := 20) rfl) (List.mem_of_getElem? (i := 5) rfl) (List.mem_of_getElem? (i := 4) rfl) (na := 2) (by decide +kernel) rfl ⟨by decide, by decide⟩ (Nat.zero_le _) (Nat.le_of_ble_eq_true rfl) dX4_isWayReading_12 ?_
  refine aw_if_eq hK 57 rfl dX4_isWayReading_15 (fun hc => ?_) (fun hc => ?_)
  · have hF := if_t hF hc
    refine aw_sub [] (lv' := []) rfl ?_
    exact bk_X4_isWayReading_57 hK hR hF
  · have hF := if_f hF hc
    refine aw_aload_n hK 0 rfl dX4_isWayReading_18 ?_
    refine aw_iload_n hK 3 rfl dX4_isWayReading_19 ?_
    refine aw_aload_n hK 0 rfl dX4_isWayReading_20 ?_
    refine gf_4_5 hK rfl (42) rfl (List.mem_of_getElem? (i := 2) rfl) dX4_isWayReading_21 ?_
    refine aw_iload_n hK 1 rfl dX4_isWayReading_24 ?_
    obtain ⟨g3, hF⟩ := gd_some hF
    refine aw_iald hK rfl g3 dX4_isWayReading_25 ?_
    refine aw_cs hK (as := [q_i x3, q_i (m 42 (ix x1))]) (trp_X4_cellAt x3 (m 42 (ix x1)) _) gX4_isWayReading_X4_cellAt rfl (na := 2) (by decide +kernel) rfl ⟨by decide, by decide⟩ (Nat.zero_le _) (Nat.le_of_ble_eq_true rfl) dX4_isWayReading_26 ?_
    refine aw_aload_n hK 0 rfl dX4_isWayReading_29 ?_
    refine aw_iload_n hK 1 rfl dX4_isWayReading_30 ?_
    refine aw_iload_n hK 3 rfl dX4_isWayReading_31 ?_
    obtain ⟨r6, m5, h4, hF⟩ := cal_some hF
    refine aw_cv hK 4 (as := [q_i x1, q_i x3]) (tr_X4_costToRead h4) gX4_isWayReading_X4_costToRead rfl rfl rfl (by decide) (na := 2) (by decide +kernel) rfl ⟨by decide, by decide⟩ (Nat.zero_le _) (Nat.le_of_ble_eq_true rfl) dX4_isWayReading_32 ?_
    refine aw_iload_n hK 3 rfl dX4_isWayReading_35 ?_
    refine aw_iconst hK (1) rfl dX4_isWayReading_36 ?_
    refine aw_iadd hK dX4_isWayReading_37 ?_
    refine aw_aload_n hK 0 rfl dX4_isWayReading_38 ?_
    refine gf_4_8 hK rfl (45) rfl (List.mem_of_getElem? (i := 3) rfl) dX4_isWayReading_39 ?_
    refine aw_iload_n hK 1 rfl dX4_isWayReading_42 ?_
    obtain ⟨g7, hF⟩ := gd_some hF
    refine aw_iald hK rfl g7 dX4_isWayReading_43 ?_
    refine aw_cs hK (as := [q_i (x3 + (1 : Int32)), q_i (m5 45 (ix x1))]) (trp_X4_cellAt (x3 + (1 : Int32)) (m5 45 (ix x1)) _) gX4_isWayReading_X4_cellAt rfl (na := 2) (by decide +kernel) rfl ⟨by decide, by decide⟩ (Nat.zero_le _) (Nat.le_of_ble_eq_true rfl) dX4_isWayReading_44 ?_
    obtain ⟨r10, m9, h8, hF⟩ := cal_some hF
    refine aw_cv hK 4 (as := [q_i (P_X4_cellAt x3 (m 42 (ix x1))), q_i r6, q_i (P_X4_cellAt (x3 + (1 : Int32)) (m5 45 (ix x1)))]) (tr_X4_isWay h8) gX4_isWayReading_X4_isWay rfl rfl rfl (by decide) (na := 3) (by decide +kernel) rfl ⟨by decide, by decide⟩ (Nat.zero_le _) (Nat.le_of_ble_eq_true rfl) dX4_isWayReading_47 ?_
    refine aw_if_eq hK 57 rfl dX4_isWayReading_50 (fun hc => ?_) (fun hc => ?_)
    · have hF := if_t hF hc
      refine aw_sub [] (lv' := []) rfl ?_
      exact bk_X4_isWayReading_57 hK hR hF
    · have hF := if_f hF hc
      refine aw_iconst hK (1) rfl dX4_isWayReading_53 ?_
      refine aw_goto hK 58 rfl dX4_isWayReading_54 ?_
      refine aw_sub [] (lv' := []) rfl ?_
      exact bk_X4_isWayReading_58 hK hR hF
def B_X4_spreadReading_126 (N : Nat) (rec_64 : Mem → Int32 → Int32 → Int32 → Option Mem) (m : Mem) (x1 : Int32) (x2 : Int32) (x3 : Int32) : Option Mem :=
  bnd (x3 + (1 : Int32)) fun y24 =>
  rec_64 m x1 x2 y24
set_option maxRecDepth 100000 in
set_option maxHeartbeats 4000000 in
theorem bk_X4_spreadReading_126 {N : Nat} {K : KT} {m' : Mem} {rec_64 : Mem → Int32 → Int32 → Int32 → Option Mem} (hK : KOK K cX4_spreadReading 4 RX4 wsX4_spreadReading 2 0 46) (hR : KRet K none none m') (hrec_64 : ∀ {m : Mem} {x1 : Int32} {x2 : Int32} {x3 : Int32}, rec_64 m x1 x2 x3 = some m' → AW K 0 64 [(0, q_r 40), (1, q_i x1), (2, q_i x2), (3, q_i x3)] [] m) {m : Mem} {x1 : Int32} {x2 : Int32} {x3 : Int32} (hF : B_X4_spreadReading_126 N rec_64 m x1 x2 x3 = some m') : AW K 0 126 [(0, q_r 40), (1, q_i x1), (2, q_i x2), (3, q_i x3)] [] m := by
  unfold B_X4_spreadReading_126 at hF
  obtain ⟨y24, hy24, hF⟩ := bnd_some hF
  refine aw_iinc hK (cz := 1) 3 [(3, q_i y24), (0, q_r 40), (1, q_i x1), (2, q_i x2)] (by decide) rfl rfl hy24 rfl dX4_spreadReading_126 ?_
  refine aw_goto hK 64 rfl dX4_spreadReading_129 ?_
  refine aw_sub [1, 2, 3, 0] (lv' := [(0, q_r 40), (1, q_i x1), (2, q_i x2), (3, q_i y24)]) rfl ?_
  exact hrec_64 hF
def S_X4_spreadReading_64 (N : Nat) (rec_64 : Mem → Int32 → Int32 → Int32 → Option Mem) (m : Mem) (x1 : Int32) (x2 : Int32) (x3 : Int32) : Option Mem :=
  bnd (ix (m 40 2)) fun q12 => gd (knd q12 == 3) <|
  if (m q12 1) ≤ x3 then (
    some m
  ) else (
    gd (inb x1 (alen 47)) <|
    if (P_X7_holds (m 47 (ix x1)) x3) = (0 : Int32) then (
      B_X4_spreadReading_126 N rec_64 m x1 x2 x3
    ) else (
      cal (F_X4_costToSkip N m x2) fun r17 m16 =>
      cal (F_X4_isWay N m16 (P_X4_cellAt x2 x3) r17 (P_X4_cellAt (x2 + (1 : Int32)) x3)) fun r20 m19 =>
      if r20 = (0 : Int32) then (
        B_X4_spreadReading_126 N rec_64 m19 x1 x2 x3
      ) else (
        gd (inb (x1 + (1 : Int32)) (alen 47)) <|
        gd (inb (x1 + (1 : Int32)) (alen 47)) <|
        bnd (mup m19 47 (ix (x1 + (1 : Int32))) ((m19 47 (ix (x1 + (1 : Int32)))) ||| (q_shl (1 : Int32) x3))) fun m23 =>
        B_X4_spreadReading_126 N rec_64 m23 x1 x2 x3
      )
    )
  )
def L_X4_spreadReading_64 (N : Nat) : Nat → Mem → Int32 → Int32 → Int32 → Option Mem
  | 0 => fun _ _ _ _ => none
  | f + 1 => S_X4_spreadReading_64 N (L_X4_spreadReading_64 N f)
set_option maxRecDepth 100000 in
set_option maxHeartbeats 4000000 in
theorem lp_X4_spreadReading_64 {N : Nat} {K : KT} {m' : Mem} (hK : KOK K cX4_spreadReading 4 RX4 wsX4_spreadReading 2 0 46) (hR : KRet K none none m') : ∀ (f : Nat) {m : Mem} {x1 : Int32} {x2 : Int32} {x3 : Int32}, L_X4_spreadReading_64 N f m x1 x2 x3 = some m' → AW K 0 64 [(0, q_r 40), (1, q_i x1), (2, q_i x2), (3, q_i x3)] [] m := by
  intro f
  induction f with
  | zero => intro m x1 x2 x3 hF; cases hF
  | succ f hrec_64 =>
    intro m x1 x2 x3 hF
    have hF : S_X4_spreadReading_64 N (L_X4_spreadReading_64 N f) m x1 x2 x3 = some m' := hF
    unfold S_X4_spreadReading_64 at hF
    refine aw_iload_n hK 3 rfl dX4_spreadReading_64 ?_
    refine aw_aload_n hK 0 rfl dX4_spreadReading_65 ?_
    refine gf_4_2 hK rfl (List.mem_of_getElem? (i := 1) rfl) dX4_spreadReading_66 ?_
    obtain ⟨q12, hq12, hF⟩ := bnd_some hF
    obtain ⟨g13, hF⟩ := gd_some hF
    refine aw_nr hq12 ?_
    refine gf_3_1 hK (eq_of_beq g13) (List.mem_of_getElem? (i := 7) rfl) dX4_spreadReading_69 ?_
    refine aw_icmp_ge hK 132 rfl dX4_spreadReading_72 (fun hc => ?_) (fun hc => ?_)
    · have hF := if_t hF hc
      obtain rfl := Option.some.inj hF
      exact aw_vret hK hR dX4_spreadReading_132
    · have hF := if_f hF hc
      refine aw_aload_n hK 0 rfl dX4_spreadReading_75 ?_
      refine gf_4_10 hK rfl (47) rfl (List.mem_of_getElem? (i := 5) rfl) dX4_spreadReading_76 ?_
      refine aw_iload_n hK 1 rfl dX4_spreadReading_79 ?_
      obtain ⟨g14, hF⟩ := gd_some hF
      refine aw_iald hK rfl g14 dX4_spreadReading_80 ?_
      refine aw_iload_n hK 3 rfl dX4_spreadReading_81 ?_
      refine aw_csN hK (as := [q_i (m 47 (ix x1)), q_i x3]) (host := "AffixWorks") (trp_X7_holds (m 47 (ix x1)) x3 _) gX4_spreadReading_X7_holds_n113 rfl (List.mem_of_getElem? (i := 20) rfl) (List.mem_of_getElem? (i := 15) rfl) (List.mem_of_getElem? (i := 14) rfl) (na := 2) (by decide +kernel) rfl ⟨by decide, by decide⟩ (Nat.zero_le _) (Nat.le_of_ble_eq_true rfl) dX4_spreadReading_82 ?_
      refine aw_if_eq hK 126 rfl dX4_spreadReading_85 (fun hc => ?_) (fun hc => ?_)
      · have hF := if_t hF hc
        refine aw_sub [0, 1, 2, 3] (lv' := [(0, q_r 40), (1, q_i x1), (2, q_i x2), (3, q_i x3)]) rfl ?_
        exact bk_X4_spreadReading_126 hK hR hrec_64 hF
      · have hF := if_f hF hc
        refine aw_aload_n hK 0 rfl dX4_spreadReading_88 ?_
        refine aw_iload_n hK 2 rfl dX4_spreadReading_89 ?_
        refine aw_iload_n hK 3 rfl dX4_spreadReading_90 ?_
        refine aw_cs hK (as := [q_i x2, q_i x3]) (trp_X4_cellAt x2 x3 _) gX4_spreadReading_X4_cellAt rfl (na := 2) (by decide +kernel) rfl ⟨by decide, by decide⟩ (Nat.zero_le _) (Nat.le_of_ble_eq_true rfl) dX4_spreadReading_91 ?_
        refine aw_aload_n hK 0 rfl dX4_spreadReading_94 ?_
        refine aw_iload_n hK 2 rfl dX4_spreadReading_95 ?_
        obtain ⟨r17, m16, h15, hF⟩ := cal_some hF
        refine aw_cv hK 4 (as := [q_i x2]) (tr_X4_costToSkip h15) gX4_spreadReading_X4_costToSkip rfl rfl rfl (by decide) (na := 1) (by decide +kernel) rfl ⟨by decide, by decide⟩ (Nat.zero_le _) (Nat.le_of_ble_eq_true rfl) dX4_spreadReading_96 ?_
        refine aw_iload_n hK 2 rfl dX4_spreadReading_99 ?_
        refine aw_iconst hK (1) rfl dX4_spreadReading_100 ?_
        refine aw_iadd hK dX4_spreadReading_101 ?_
        refine aw_iload_n hK 3 rfl dX4_spreadReading_102 ?_
        refine aw_cs hK (as := [q_i (x2 + (1 : Int32)), q_i x3]) (trp_X4_cellAt (x2 + (1 : Int32)) x3 _) gX4_spreadReading_X4_cellAt rfl (na := 2) (by decide +kernel) rfl ⟨by decide, by decide⟩ (Nat.zero_le _) (Nat.le_of_ble_eq_true rfl) dX4_spreadReading_103 ?_
        obtain ⟨r20, m19, h18, hF⟩ := cal_some hF
        refine aw_cv hK 4 (as := [q_i (P_X4_cellAt x2 x3), q_i r17, q_i (P_X4_cellAt (x2 + (1 : Int32)) x3)]) (tr_X4_isWay h18) gX4_spreadReading_X4_isWay rfl rfl rfl (by decide) (na := 3) (by decide +kernel) rfl ⟨by decide, by decide⟩ (Nat.zero_le _) (Nat.le_of_ble_eq_true rfl) dX4_spreadReading_106 ?_
        refine aw_if_eq hK 126 rfl dX4_spreadReading_109 (fun hc => ?_) (fun hc => ?_)
        · have hF := if_t hF hc
          refine aw_sub [0, 1, 2, 3] (lv' := [(0, q_r 40), (1, q_i x1), (2, q_i x2), (3, q_i x3)]) rfl ?_
          exact bk_X4_spreadReading_126 hK hR hrec_64 hF
        · have hF := if_f hF hc
          refine aw_aload_n hK 0 rfl dX4_spreadReading_112 ?_
          refine gf_4_10 hK rfl (47) rfl (List.mem_of_getElem? (i := 5) rfl) dX4_spreadReading_113 ?_
          refine aw_iload_n hK 1 rfl dX4_spreadReading_116 ?_
          refine aw_iconst hK (1) rfl dX4_spreadReading_117 ?_
          refine aw_iadd hK dX4_spreadReading_118 ?_
          refine aw_dup2 hK rfl rfl dX4_spreadReading_119 ?_
          obtain ⟨g21, hF⟩ := gd_some hF
          refine aw_iald hK rfl g21 dX4_spreadReading_120 ?_
          refine aw_iconst hK (1) rfl dX4_spreadReading_121 ?_
          refine aw_iload_n hK 3 rfl dX4_spreadReading_122 ?_
          refine aw_ishl hK dX4_spreadReading_123 ?_
          refine aw_ior hK dX4_spreadReading_124 ?_
          obtain ⟨g22, hF⟩ := gd_some hF
          refine aw_iast hK rfl g22 dX4_spreadReading_125 ?_
          obtain ⟨m23, hm23, hF⟩ := bnd_some hF
          refine aw_mm hm23 ?_
          refine aw_sub [0, 1, 2, 3] (lv' := [(0, q_r 40), (1, q_i x1), (2, q_i x2), (3, q_i x3)]) rfl ?_
          exact bk_X4_spreadReading_126 hK hR hrec_64 hF
def B_X4_spreadReading_56 (N : Nat) (rec_2 : Mem → Int32 → Int32 → Int32 → Option Mem) (m : Mem) (x1 : Int32) (x2 : Int32) (x3 : Int32) : Option Mem :=
  bnd (x3 + (1 : Int32)) fun y11 =>
  rec_2 m x1 x2 y11
set_option maxRecDepth 100000 in
set_option maxHeartbeats 4000000 in
theorem bk_X4_spreadReading_56 {N : Nat} {K : KT} {m' : Mem} {rec_2 : Mem → Int32 → Int32 → Int32 → Option Mem} (hK : KOK K cX4_spreadReading 4 RX4 wsX4_spreadReading 2 0 46) (hR : KRet K none none m') (hrec_2 : ∀ {m : Mem} {x1 : Int32} {x2 : Int32} {x3 : Int32}, rec_2 m x1 x2 x3 = some m' → AW K 0 2 [(0, q_r 40), (1, q_i x1), (2, q_i x2), (3, q_i x3)] [] m) {m : Mem} {x1 : Int32} {x2 : Int32} {x3 : Int32} (hF : B_X4_spreadReading_56 N rec_2 m x1 x2 x3 = some m') : AW K 0 56 [(0, q_r 40), (1, q_i x1), (2, q_i x2), (3, q_i x3)] [] m := by
  unfold B_X4_spreadReading_56 at hF
  obtain ⟨y11, hy11, hF⟩ := bnd_some hF
  refine aw_iinc hK (cz := 1) 3 [(3, q_i y11), (0, q_r 40), (1, q_i x1), (2, q_i x2)] (by decide) rfl rfl hy11 rfl dX4_spreadReading_56 ?_
  refine aw_goto hK 2 rfl dX4_spreadReading_59 ?_
  refine aw_sub [1, 2, 3, 0] (lv' := [(0, q_r 40), (1, q_i x1), (2, q_i x2), (3, q_i y11)]) rfl ?_
  exact hrec_2 hF
def S_X4_spreadReading_2 (N : Nat) (rec_2 : Mem → Int32 → Int32 → Int32 → Option Mem) (m : Mem) (x1 : Int32) (x2 : Int32) (x3 : Int32) : Option Mem :=
  bnd (ix (m 40 2)) fun q1 => gd (knd q1 == 3) <|
  if (m (q1 + 1) 2) ≤ x3 then (
    L_X4_spreadReading_64 N N m x1 x2 (0 : Int32)
  ) else (
    gd (inb x3 (alen 44)) <|
    if (m 44 (ix x3)) = (8 : Int32) then (
      cal (F_X4_isWayReading N m x3 x1 x2) fun r6 m5 =>
      if r6 = (0 : Int32) then (
        B_X4_spreadReading_56 N rec_2 m5 x1 x2 x3
      ) else (
        gd (inb (x1 + (1 : Int32)) (alen 47)) <|
        gd (inb x3 (alen 45)) <|
        gd (inb (x1 + (1 : Int32)) (alen 47)) <|
        bnd (mup m5 47 (ix (x1 + (1 : Int32))) ((m5 47 (ix (x1 + (1 : Int32)))) ||| (q_shl (1 : Int32) (m5 45 (ix x3))))) fun m10 =>
        B_X4_spreadReading_56 N rec_2 m10 x1 x2 x3
      )
    ) else (
      B_X4_spreadReading_56 N rec_2 m x1 x2 x3
    )
  )
def L_X4_spreadReading_2 (N : Nat) : Nat → Mem → Int32 → Int32 → Int32 → Option Mem
  | 0 => fun _ _ _ _ => none
  | f + 1 => S_X4_spreadReading_2 N (L_X4_spreadReading_2 N f)
set_option maxRecDepth 100000 in
set_option maxHeartbeats 4000000 in
theorem lp_X4_spreadReading_2 {N : Nat} {K : KT} {m' : Mem} (hK : KOK K cX4_spreadReading 4 RX4 wsX4_spreadReading 2 0 46) (hR : KRet K none none m') : ∀ (f : Nat) {m : Mem} {x1 : Int32} {x2 : Int32} {x3 : Int32}, L_X4_spreadReading_2 N f m x1 x2 x3 = some m' → AW K 0 2 [(0, q_r 40), (1, q_i x1), (2, q_i x2), (3, q_i x3)] [] m := by
  intro f
  induction f with
  | zero => intro m x1 x2 x3 hF; cases hF
  | succ f hrec_2 =>
    intro m x1 x2 x3 hF
    have hF : S_X4_spreadReading_2 N (L_X4_spreadReading_2 N f) m x1 x2 x3 = some m' := hF
    unfold S_X4_spreadReading_2 at hF
    refine aw_iload_n hK 3 rfl dX4_spreadReading_2 ?_
    refine aw_aload_n hK 0 rfl dX4_spreadReading_3 ?_
    refine gf_4_2 hK rfl (List.mem_of_getElem? (i := 1) rfl) dX4_spreadReading_4 ?_
    obtain ⟨q1, hq1, hF⟩ := bnd_some hF
    obtain ⟨g2, hF⟩ := gd_some hF
    refine aw_nr hq1 ?_
    refine gf_3_0 hK (eq_of_beq g2) (q1 + 1) rfl (List.mem_of_getElem? (i := 2) rfl) dX4_spreadReading_7 ?_
    refine gf_0_2 hK (kM1 (eq_of_beq g2)) (List.mem_of_getElem? (i := 3) rfl) dX4_spreadReading_10 ?_
    refine aw_icmp_ge hK 62 rfl dX4_spreadReading_13 (fun hc => ?_) (fun hc => ?_)
    · have hF := if_t hF hc
      refine aw_iconst hK (0) rfl dX4_spreadReading_62 ?_
      refine aw_istore_n hK [(3, q_i (0 : Int32)), (0, q_r 40), (1, q_i x1), (2, q_i x2)] (by decide) rfl dX4_spreadReading_63 ?_
      refine aw_sub [1, 2, 3, 0] (lv' := [(0, q_r 40), (1, q_i x1), (2, q_i x2), (3, q_i (0 : Int32))]) rfl ?_
      exact lp_X4_spreadReading_64 hK hR _ hF
    · have hF := if_f hF hc
      refine aw_aload_n hK 0 rfl dX4_spreadReading_16 ?_
      refine gf_4_7 hK rfl (44) rfl (List.mem_of_getElem? (i := 4) rfl) dX4_spreadReading_17 ?_
      refine aw_iload_n hK 3 rfl dX4_spreadReading_20 ?_
      obtain ⟨g3, hF⟩ := gd_some hF
      refine aw_iald hK rfl g3 dX4_spreadReading_21 ?_
      refine aw_bipush hK (8) rfl dX4_spreadReading_22 ?_
      refine aw_icmp_ne hK 56 rfl dX4_spreadReading_24 (fun hc => ?_) (fun hc => ?_)
      · have hF := if_f hF hc
        refine aw_sub [0, 1, 2, 3] (lv' := [(0, q_r 40), (1, q_i x1), (2, q_i x2), (3, q_i x3)]) rfl ?_
        exact bk_X4_spreadReading_56 hK hR hrec_2 hF
      · have hF := if_t hF hc
        refine aw_aload_n hK 0 rfl dX4_spreadReading_27 ?_
        refine aw_iload_n hK 3 rfl dX4_spreadReading_28 ?_
        refine aw_iload_n hK 1 rfl dX4_spreadReading_29 ?_
        refine aw_iload_n hK 2 rfl dX4_spreadReading_30 ?_
        obtain ⟨r6, m5, h4, hF⟩ := cal_some hF
        refine aw_cv hK 4 (as := [q_i x3, q_i x1, q_i x2]) (tr_X4_isWayReading h4) gX4_spreadReading_X4_isWayReading rfl rfl rfl (by decide) (na := 3) (by decide +kernel) rfl ⟨by decide, by decide⟩ (Nat.zero_le _) (Nat.le_of_ble_eq_true rfl) dX4_spreadReading_31 ?_
        refine aw_if_eq hK 56 rfl dX4_spreadReading_34 (fun hc => ?_) (fun hc => ?_)
        · have hF := if_t hF hc
          refine aw_sub [0, 1, 2, 3] (lv' := [(0, q_r 40), (1, q_i x1), (2, q_i x2), (3, q_i x3)]) rfl ?_
          exact bk_X4_spreadReading_56 hK hR hrec_2 hF
        · have hF := if_f hF hc
          refine aw_aload_n hK 0 rfl dX4_spreadReading_37 ?_
          refine gf_4_10 hK rfl (47) rfl (List.mem_of_getElem? (i := 5) rfl) dX4_spreadReading_38 ?_
          refine aw_iload_n hK 1 rfl dX4_spreadReading_41 ?_
          refine aw_iconst hK (1) rfl dX4_spreadReading_42 ?_
          refine aw_iadd hK dX4_spreadReading_43 ?_
          refine aw_dup2 hK rfl rfl dX4_spreadReading_44 ?_
          obtain ⟨g7, hF⟩ := gd_some hF
          refine aw_iald hK rfl g7 dX4_spreadReading_45 ?_
          refine aw_iconst hK (1) rfl dX4_spreadReading_46 ?_
          refine aw_aload_n hK 0 rfl dX4_spreadReading_47 ?_
          refine gf_4_8 hK rfl (45) rfl (List.mem_of_getElem? (i := 6) rfl) dX4_spreadReading_48 ?_
          refine aw_iload_n hK 3 rfl dX4_spreadReading_51 ?_
          obtain ⟨g8, hF⟩ := gd_some hF
          refine aw_iald hK rfl g8 dX4_spreadReading_52 ?_
          refine aw_ishl hK dX4_spreadReading_53 ?_
          refine aw_ior hK dX4_spreadReading_54 ?_
          obtain ⟨g9, hF⟩ := gd_some hF
          refine aw_iast hK rfl g9 dX4_spreadReading_55 ?_
          obtain ⟨m10, hm10, hF⟩ := bnd_some hF
          refine aw_mm hm10 ?_
          refine aw_sub [0, 1, 2, 3] (lv' := [(0, q_r 40), (1, q_i x1), (2, q_i x2), (3, q_i x3)]) rfl ?_
          exact bk_X4_spreadReading_56 hK hR hrec_2 hF
def F_X4_spreadReading (N : Nat) (m : Mem) (x1 : Int32) (x2 : Int32) : Option Mem :=
  L_X4_spreadReading_2 N N m x1 x2 (0 : Int32)
set_option maxRecDepth 100000 in
set_option maxHeartbeats 4000000 in
theorem tr_X4_spreadReading {N : Nat} {m m' : Mem} {x1 : Int32} {x2 : Int32} (hF : F_X4_spreadReading N m x1 x2 = some m') : Tr yX4_spreadReading wsX4_spreadReading 2 46 [q_r 40, q_i x1, q_i x2] m none m' := by
  refine tr_of (bytes := cX4_spreadReading) (maxL := 4) (ret := none) (by decide) rfl (Nat.le_of_ble_eq_true rfl) (fun K hK hR => ?_)
  have hK : KOK K cX4_spreadReading 4 RX4 wsX4_spreadReading 2 0 46 := hK
  show AW K 0 0 [(0, q_r 40), (1, q_i x1), (2, q_i x2)] [] m
  unfold F_X4_spreadReading at hF
  refine aw_iconst hK (0) rfl dX4_spreadReading_0 ?_
  refine aw_istore_n hK [(3, q_i (0 : Int32)), (0, q_r 40), (1, q_i x1), (2, q_i x2)] (by decide) rfl dX4_spreadReading_1 ?_
  refine aw_sub [1, 2, 3, 0] (lv' := [(0, q_r 40), (1, q_i x1), (2, q_i x2), (3, q_i (0 : Int32))]) rfl ?_
  exact lp_X4_spreadReading_2 hK hR _ hF
