def B_X8_letterAt_19 (N : Nat) (m : Mem) (s0 : Int32) : Option (Int32 × Mem) :=
  some (s0, m)
set_option maxRecDepth 100000 in
set_option maxHeartbeats 4000000 in
theorem bk_X8_letterAt_19 {N : Nat} {K : KT} {m' : Mem} {r : Int32} (hK : KOK K cX8_letterAt 2 RX8 wsX8_letterAt 0 0 0) (hR : KRet K (some .int) (some r) m') {m : Mem} {s0 : Int32} (hF : B_X8_letterAt_19 N m s0 = some (r, m')) : AW K 0 19 [] [q_i s0] m := by
  unfold B_X8_letterAt_19 at hF
  obtain ⟨rfl, rfl⟩ := so_inj hF
  exact aw_iret hK hR rfl dX8_letterAt_19
def F_X8_letterAt (N : Nat) (m : Mem) (x1 : Int32) : Option (Int32 × Mem) :=
  if (m 70 42) ≤ x1 then (
    B_X8_letterAt_19 N m (8 : Int32)
  ) else (
    gd (inb x1 (alen 104)) <|
    B_X8_letterAt_19 N m (m 104 (ix x1))
  )
set_option maxRecDepth 100000 in
set_option maxHeartbeats 4000000 in
theorem tr_X8_letterAt {N : Nat} {m m' : Mem} {r : Int32} {x1 : Int32} (hF : F_X8_letterAt N m x1 = some (r, m')) : Tr yX8_letterAt wsX8_letterAt 0 0 [q_r 70, q_i x1] m (some r) m' := by
  refine tr_of (bytes := cX8_letterAt) (maxL := 2) (ret := (some .int)) (by decide) rfl (Nat.le_of_ble_eq_true rfl) (fun K hK hR => ?_)
  have hK : KOK K cX8_letterAt 2 RX8 wsX8_letterAt 0 0 0 := hK
  show AW K 0 0 [(0, q_r 70), (1, q_i x1)] [] m
  unfold F_X8_letterAt at hF
  refine aw_iload_n hK 1 rfl dX8_letterAt_0 ?_
  refine aw_aload_n hK 0 rfl dX8_letterAt_1 ?_
  refine gf_8_42 hK rfl (List.mem_of_getElem? (i := 1) rfl) dX8_letterAt_2 ?_
  refine aw_icmp_ge hK 17 rfl dX8_letterAt_5 (fun hc => ?_) (fun hc => ?_)
  · have hF := if_t hF hc
    refine aw_bipush hK (8) rfl dX8_letterAt_17 ?_
    refine aw_sub [] (lv' := []) rfl ?_
    exact bk_X8_letterAt_19 hK hR hF
  · have hF := if_f hF hc
    refine aw_aload_n hK 0 rfl dX8_letterAt_8 ?_
    refine gf_8_41 hK rfl (104) rfl (List.mem_of_getElem? (i := 2) rfl) dX8_letterAt_9 ?_
    refine aw_iload_n hK 1 rfl dX8_letterAt_12 ?_
    obtain ⟨g1, hF⟩ := gd_some hF
    refine aw_iald hK rfl g1 dX8_letterAt_13 ?_
    refine aw_goto hK 19 rfl dX8_letterAt_14 ?_
    refine aw_sub [] (lv' := []) rfl ?_
    exact bk_X8_letterAt_19 hK hR hF
def B_X8_answer_74 (N : Nat) (m : Mem) (s0 : Int32) : Option (Int32 × Mem) :=
  some (s0, m)
set_option maxRecDepth 100000 in
set_option maxHeartbeats 4000000 in
theorem bk_X8_answer_74 {N : Nat} {K : KT} {m' : Mem} {r : Int32} (hK : KOK K cX8_answer 6 RX8 wsX8_answer 6 0 152) (hR : KRet K (some .int) (some r) m') {m : Mem} {s0 : Int32} (hF : B_X8_answer_74 N m s0 = some (r, m')) : AW K 0 74 [] [q_i s0] m := by
  unfold B_X8_answer_74 at hF
  obtain ⟨rfl, rfl⟩ := so_inj hF
  exact aw_iret hK hR rfl dX8_answer_74
def B_X8_answer_45 (N : Nat) (m : Mem) (x1 : Int32) (x2 : Int32) (x3 : Int32) (x4 : Int32) (s0 : Int32) : Option (Int32 × Mem) :=
  cal (F_X8_isFine N m s0) fun r6 m5 =>
  if r6 = (0 : Int32) then (
    some ((0 : Int32), m5)
  ) else (
    cal (F_X8_answersTo N m5 x1 x2 x3) fun r9 m8 =>
    if r9 ≤ x3 then (
      B_X8_answer_74 N m8 (-1 : Int32)
    ) else (
      cal (F_X8_letterAt N m8 x4) fun r12 m11 =>
      B_X8_answer_74 N m11 r12
    )
  )
set_option maxRecDepth 100000 in
set_option maxHeartbeats 4000000 in
theorem bk_X8_answer_45 {N : Nat} {K : KT} {m' : Mem} {r : Int32} (hK : KOK K cX8_answer 6 RX8 wsX8_answer 6 0 152) (hR : KRet K (some .int) (some r) m') {m : Mem} {x1 : Int32} {x2 : Int32} {x3 : Int32} {x4 : Int32} {s0 : Int32} (hF : B_X8_answer_45 N m x1 x2 x3 x4 s0 = some (r, m')) : AW K 0 45 [(0, q_r 70), (1, q_i x1), (2, q_i x2), (3, q_i x3), (4, q_i x4)] [q_i s0, q_r 70] m := by
  unfold B_X8_answer_45 at hF
  obtain ⟨r6, m5, h4, hF⟩ := cal_some hF
  refine aw_cv hK 8 (as := [q_i s0]) (tr_X8_isFine h4) gX8_answer_X8_isFine rfl rfl rfl (by decide) (na := 1) (by decide +kernel) rfl ⟨by decide, by decide⟩ (Nat.zero_le _) (Nat.le_of_ble_eq_true rfl) dX8_answer_45 ?_
  refine aw_if_ne hK 53 rfl dX8_answer_48 (fun hc => ?_) (fun hc => ?_)
  · have hF := if_f hF hc
    refine aw_aload_n hK 0 rfl dX8_answer_53 ?_
    refine aw_iload_n hK 1 rfl dX8_answer_54 ?_
    refine aw_iload_n hK 2 rfl dX8_answer_55 ?_
    refine aw_iload_n hK 3 rfl dX8_answer_56 ?_
    obtain ⟨r9, m8, h7, hF⟩ := cal_some hF
    refine aw_cv hK 8 (as := [q_i x1, q_i x2, q_i x3]) (tr_X8_answersTo h7) gX8_answer_X8_answersTo rfl rfl rfl (by decide) (na := 3) (by decide +kernel) rfl ⟨by decide, by decide⟩ (Nat.zero_le _) (Nat.le_of_ble_eq_true rfl) dX8_answer_57 ?_
    refine aw_iload_n hK 3 rfl dX8_answer_60 ?_
    refine aw_icmp_le hK 73 rfl dX8_answer_61 (fun hc => ?_) (fun hc => ?_)
    · have hF := if_t hF hc
      refine aw_iconst hK (-1) rfl dX8_answer_73 ?_
      refine aw_sub [] (lv' := []) rfl ?_
      exact bk_X8_answer_74 hK hR hF
    · have hF := if_f hF hc
      refine aw_aload_n hK 0 rfl dX8_answer_64 ?_
      refine aw_iload hK 4 rfl dX8_answer_65 ?_
      obtain ⟨r12, m11, h10, hF⟩ := cal_some hF
      refine aw_cv hK 8 (as := [q_i x4]) (tr_X8_letterAt h10) gX8_answer_X8_letterAt rfl rfl rfl (by decide) (na := 1) (by decide +kernel) rfl ⟨by decide, by decide⟩ (Nat.zero_le _) (Nat.le_of_ble_eq_true rfl) dX8_answer_67 ?_
      refine aw_goto hK 74 rfl dX8_answer_70 ?_
      refine aw_sub [] (lv' := []) rfl ?_
      exact bk_X8_answer_74 hK hR hF
  · have hF := if_t hF hc
    refine aw_iconst hK (0) rfl dX8_answer_51 ?_
    obtain ⟨rfl, rfl⟩ := so_inj hF
    exact aw_iret hK hR rfl dX8_answer_52
def B_X8_answer_18 (N : Nat) (m : Mem) (x1 : Int32) (x2 : Int32) (x3 : Int32) (x4 : Int32) (s0 : Int32) : Option (Int32 × Mem) :=
  if s0 = (0 : Int32) then (
    B_X8_answer_45 N m x1 x2 x3 x4 (1 : Int32)
  ) else (
    if (P_X8_isIn x3 (0 : Int32) (19 : Int32)) = (0 : Int32) then (
      B_X8_answer_45 N m x1 x2 x3 x4 (2 : Int32)
    ) else (
      B_X8_answer_45 N m x1 x2 x3 x4 (0 : Int32)
    )
  )
set_option maxRecDepth 100000 in
set_option maxHeartbeats 4000000 in
theorem bk_X8_answer_18 {N : Nat} {K : KT} {m' : Mem} {r : Int32} (hK : KOK K cX8_answer 6 RX8 wsX8_answer 6 0 152) (hR : KRet K (some .int) (some r) m') {m : Mem} {x1 : Int32} {x2 : Int32} {x3 : Int32} {x4 : Int32} {s0 : Int32} (hF : B_X8_answer_18 N m x1 x2 x3 x4 s0 = some (r, m')) : AW K 0 18 [(0, q_r 70), (1, q_i x1), (2, q_i x2), (3, q_i x3), (4, q_i x4)] [q_i s0] m := by
  unfold B_X8_answer_18 at hF
  refine aw_istore hK [(5, q_i s0), (0, q_r 70), (1, q_i x1), (2, q_i x2), (3, q_i x3), (4, q_i x4)] (by decide) rfl dX8_answer_18 ?_
  refine aw_aload_n hK 1 rfl dX8_answer_20 ?_
  refine aw_iload hK 0 rfl dX8_answer_21 ?_
  refine aw_if_ne hK 30 rfl dX8_answer_23 (fun hc => ?_) (fun hc => ?_)
  · have hF := if_f hF hc
    refine aw_iload_n hK 4 rfl dX8_answer_30 ?_
    refine aw_iconst hK (0) rfl dX8_answer_31 ?_
    refine aw_bipush hK (19) rfl dX8_answer_32 ?_
    refine aw_cs hK (as := [q_i x3, q_i (0 : Int32), q_i (19 : Int32)]) (trp_X8_isIn x3 (0 : Int32) (19 : Int32) _) gX8_answer_X8_isIn rfl (na := 3) (by decide +kernel) rfl ⟨by decide, by decide⟩ (Nat.zero_le _) (Nat.le_of_ble_eq_true rfl) dX8_answer_34 ?_
    refine aw_if_ne hK 44 rfl dX8_answer_37 (fun hc => ?_) (fun hc => ?_)
    · have hF := if_f hF hc
      refine aw_iconst hK (0) rfl dX8_answer_44 ?_
      refine aw_sub [1, 2, 3, 4, 5] (lv' := [(0, q_r 70), (1, q_i x1), (2, q_i x2), (3, q_i x3), (4, q_i x4)]) rfl ?_
      exact bk_X8_answer_45 hK hR hF
    · have hF := if_t hF hc
      refine aw_iconst hK (2) rfl dX8_answer_40 ?_
      refine aw_goto hK 45 rfl dX8_answer_41 ?_
      refine aw_sub [1, 2, 3, 4, 5] (lv' := [(0, q_r 70), (1, q_i x1), (2, q_i x2), (3, q_i x3), (4, q_i x4)]) rfl ?_
      exact bk_X8_answer_45 hK hR hF
  · have hF := if_t hF hc
    refine aw_iconst hK (1) rfl dX8_answer_26 ?_
    refine aw_goto hK 45 rfl dX8_answer_27 ?_
    refine aw_sub [1, 2, 3, 4, 5] (lv' := [(0, q_r 70), (1, q_i x1), (2, q_i x2), (3, q_i x3), (4, q_i x4)]) rfl ?_
    exact bk_X8_answer_45 hK hR hF
def B_X8_answer_17 (N : Nat) (m : Mem) (x1 : Int32) (x2 : Int32) (x3 : Int32) (x4 : Int32) : Option (Int32 × Mem) :=
  B_X8_answer_18 N m x1 x2 x3 x4 (0 : Int32)
set_option maxRecDepth 100000 in
set_option maxHeartbeats 4000000 in
theorem bk_X8_answer_17 {N : Nat} {K : KT} {m' : Mem} {r : Int32} (hK : KOK K cX8_answer 6 RX8 wsX8_answer 6 0 152) (hR : KRet K (some .int) (some r) m') {m : Mem} {x1 : Int32} {x2 : Int32} {x3 : Int32} {x4 : Int32} (hF : B_X8_answer_17 N m x1 x2 x3 x4 = some (r, m')) : AW K 0 17 [(0, q_r 70), (1, q_i x1), (2, q_i x2), (3, q_i x3), (4, q_i x4)] [] m := by
  unfold B_X8_answer_17 at hF
  refine aw_iconst hK (0) rfl dX8_answer_17 ?_
  refine aw_sub [0, 1, 2, 3, 4] (lv' := [(0, q_r 70), (1, q_i x1), (2, q_i x2), (3, q_i x3), (4, q_i x4)]) rfl ?_
  exact bk_X8_answer_18 hK hR hF
def F_X8_answer (N : Nat) (m : Mem) (x1 : Int32) (x2 : Int32) (x3 : Int32) (x4 : Int32) : Option (Int32 × Mem) :=
  cal (F_X8_isMachine N m x1) fun r3 m2 =>
  if r3 = (0 : Int32) then (
    B_X8_answer_17 N m2 x1 x2 x3 x4
  ) else (
    if x4 < (0 : Int32) then (
      B_X8_answer_17 N m2 x1 x2 x3 x4
    ) else (
      B_X8_answer_18 N m2 x1 x2 x3 x4 (1 : Int32)
    )
  )
set_option maxRecDepth 100000 in
set_option maxHeartbeats 4000000 in
theorem tr_X8_answer {N : Nat} {m m' : Mem} {r : Int32} {x1 : Int32} {x2 : Int32} {x3 : Int32} {x4 : Int32} (hF : F_X8_answer N m x1 x2 x3 x4 = some (r, m')) : Tr yX8_answer wsX8_answer 6 152 [q_r 70, q_i x1, q_i x2, q_i x3, q_i x4] m (some r) m' := by
  refine tr_of (bytes := cX8_answer) (maxL := 6) (ret := (some .int)) (by decide) rfl (Nat.le_of_ble_eq_true rfl) (fun K hK hR => ?_)
  have hK : KOK K cX8_answer 6 RX8 wsX8_answer 6 0 152 := hK
  show AW K 0 0 [(0, q_r 70), (1, q_i x1), (2, q_i x2), (3, q_i x3), (4, q_i x4)] [] m
  unfold F_X8_answer at hF
  refine aw_aload_n hK 0 rfl dX8_answer_0 ?_
  refine aw_iload_n hK 1 rfl dX8_answer_1 ?_
  obtain ⟨r3, m2, h1, hF⟩ := cal_some hF
  refine aw_cv hK 8 (as := [q_i x1]) (tr_X8_isMachine h1) gX8_answer_X8_isMachine rfl rfl rfl (by decide) (na := 1) (by decide +kernel) rfl ⟨by decide, by decide⟩ (Nat.zero_le _) (Nat.le_of_ble_eq_true rfl) dX8_answer_2 ?_
  refine aw_if_eq hK 17 rfl dX8_answer_5 (fun hc => ?_) (fun hc => ?_)
  · have hF := if_t hF hc
    refine aw_sub [0, 1, 2, 3, 4] (lv' := [(0, q_r 70), (1, q_i x1), (2, q_i x2), (3, q_i x3), (4, q_i x4)]) rfl ?_
    exact bk_X8_answer_17 hK hR hF
  · have hF := if_f hF hc
    refine aw_iload hK 4 rfl dX8_answer_8 ?_
    refine aw_if_lt hK 17 rfl dX8_answer_10 (fun hc => ?_) (fun hc => ?_)
    · have hF := if_t hF hc
      refine aw_sub [0, 1, 2, 3, 4] (lv' := [(0, q_r 70), (1, q_i x1), (2, q_i x2), (3, q_i x3), (4, q_i x4)]) rfl ?_
      exact bk_X8_answer_17 hK hR hF
    · have hF := if_f hF hc
      refine aw_iconst hK (1) rfl dX8_answer_13 ?_
      refine aw_goto hK 18 rfl dX8_answer_14 ?_
      refine aw_sub [0, 1, 2, 3, 4] (lv' := [(0, q_r 70), (1, q_i x1), (2, q_i x2), (3, q_i x3), (4, q_i x4)]) rfl ?_
      exact bk_X8_answer_18 hK hR hF
def B_X8_answers_32 (N : Nat) (m : Mem) (s0 : Int32) : Option (Int32 × Mem) :=
  some (s0, m)
set_option maxRecDepth 100000 in
set_option maxHeartbeats 4000000 in
theorem bk_X8_answers_32 {N : Nat} {K : KT} {m' : Mem} {r : Int32} (hK : KOK K cX8_answers 3 RX8 wsX8_answers 6 0 152) (hR : KRet K (some .int) (some r) m') {m : Mem} {s0 : Int32} (hF : B_X8_answers_32 N m s0 = some (r, m')) : AW K 0 32 [] [q_i s0] m := by
  unfold B_X8_answers_32 at hF
  obtain ⟨rfl, rfl⟩ := so_inj hF
  exact aw_iret hK hR rfl dX8_answers_32
def B_X8_answers_14 (N : Nat) (m : Mem) (x1 : Int32) (x2 : Int32) (s0 : Int32) : Option (Int32 × Mem) :=
  cal (F_X8_isFine N m s0) fun r6 m5 =>
  if r6 = (0 : Int32) then (
    B_X8_answers_32 N m5 (0 : Int32)
  ) else (
    cal (F_X8_answersTo N m5 x1 x2 (19 : Int32)) fun r9 m8 =>
    B_X8_answers_32 N m8 r9
  )
set_option maxRecDepth 100000 in
set_option maxHeartbeats 4000000 in
theorem bk_X8_answers_14 {N : Nat} {K : KT} {m' : Mem} {r : Int32} (hK : KOK K cX8_answers 3 RX8 wsX8_answers 6 0 152) (hR : KRet K (some .int) (some r) m') {m : Mem} {x1 : Int32} {x2 : Int32} {s0 : Int32} (hF : B_X8_answers_14 N m x1 x2 s0 = some (r, m')) : AW K 0 14 [(0, q_r 70), (1, q_i x1), (2, q_i x2)] [q_i s0, q_r 70] m := by
  unfold B_X8_answers_14 at hF
  obtain ⟨r6, m5, h4, hF⟩ := cal_some hF
  refine aw_cv hK 8 (as := [q_i s0]) (tr_X8_isFine h4) gX8_answers_X8_isFine rfl rfl rfl (by decide) (na := 1) (by decide +kernel) rfl ⟨by decide, by decide⟩ (Nat.zero_le _) (Nat.le_of_ble_eq_true rfl) dX8_answers_14 ?_
  refine aw_if_eq hK 31 rfl dX8_answers_17 (fun hc => ?_) (fun hc => ?_)
  · have hF := if_t hF hc
    refine aw_iconst hK (0) rfl dX8_answers_31 ?_
    refine aw_sub [] (lv' := []) rfl ?_
    exact bk_X8_answers_32 hK hR hF
  · have hF := if_f hF hc
    refine aw_aload_n hK 0 rfl dX8_answers_20 ?_
    refine aw_iload_n hK 1 rfl dX8_answers_21 ?_
    refine aw_iload_n hK 2 rfl dX8_answers_22 ?_
    refine aw_bipush hK (19) rfl dX8_answers_23 ?_
    obtain ⟨r9, m8, h7, hF⟩ := cal_some hF
    refine aw_cv hK 8 (as := [q_i x1, q_i x2, q_i (19 : Int32)]) (tr_X8_answersTo h7) gX8_answers_X8_answersTo rfl rfl rfl (by decide) (na := 3) (by decide +kernel) rfl ⟨by decide, by decide⟩ (Nat.zero_le _) (Nat.le_of_ble_eq_true rfl) dX8_answers_25 ?_
    refine aw_goto hK 32 rfl dX8_answers_28 ?_
    refine aw_sub [] (lv' := []) rfl ?_
    exact bk_X8_answers_32 hK hR hF
def F_X8_answers (N : Nat) (m : Mem) (x1 : Int32) (x2 : Int32) : Option (Int32 × Mem) :=
  cal (F_X8_isMachine N m x1) fun r3 m2 =>
  if r3 = (0 : Int32) then (
    B_X8_answers_14 N m2 x1 x2 (1 : Int32)
  ) else (
    B_X8_answers_14 N m2 x1 x2 (0 : Int32)
  )
set_option maxRecDepth 100000 in
set_option maxHeartbeats 4000000 in
theorem tr_X8_answers {N : Nat} {m m' : Mem} {r : Int32} {x1 : Int32} {x2 : Int32} (hF : F_X8_answers N m x1 x2 = some (r, m')) : Tr yX8_answers wsX8_answers 6 152 [q_r 70, q_i x1, q_i x2] m (some r) m' := by
  refine tr_of (bytes := cX8_answers) (maxL := 3) (ret := (some .int)) (by decide) rfl (Nat.le_of_ble_eq_true rfl) (fun K hK hR => ?_)
  have hK : KOK K cX8_answers 3 RX8 wsX8_answers 6 0 152 := hK
  show AW K 0 0 [(0, q_r 70), (1, q_i x1), (2, q_i x2)] [] m
  unfold F_X8_answers at hF
  refine aw_aload_n hK 0 rfl dX8_answers_0 ?_
  refine aw_aload_n hK 0 rfl dX8_answers_1 ?_
  refine aw_iload_n hK 1 rfl dX8_answers_2 ?_
  obtain ⟨r3, m2, h1, hF⟩ := cal_some hF
  refine aw_cv hK 8 (as := [q_i x1]) (tr_X8_isMachine h1) gX8_answers_X8_isMachine rfl rfl rfl (by decide) (na := 1) (by decide +kernel) rfl ⟨by decide, by decide⟩ (Nat.zero_le _) (Nat.le_of_ble_eq_true rfl) dX8_answers_3 ?_
  refine aw_if_eq hK 13 rfl dX8_answers_6 (fun hc => ?_) (fun hc => ?_)
  · have hF := if_t hF hc
    refine aw_iconst hK (1) rfl dX8_answers_13 ?_
    refine aw_sub [0, 1, 2] (lv' := [(0, q_r 70), (1, q_i x1), (2, q_i x2)]) rfl ?_
    exact bk_X8_answers_14 hK hR hF
  · have hF := if_f hF hc
    refine aw_iconst hK (0) rfl dX8_answers_9 ?_
    refine aw_goto hK 14 rfl dX8_answers_10 ?_
    refine aw_sub [0, 1, 2] (lv' := [(0, q_r 70), (1, q_i x1), (2, q_i x2)]) rfl ?_
    exact bk_X8_answers_14 hK hR hF
def B_X8_cost_50 (N : Nat) (m : Mem) (s0 : Int32) : Option (Int32 × Mem) :=
  some (s0, m)
set_option maxRecDepth 100000 in
set_option maxHeartbeats 4000000 in
theorem bk_X8_cost_50 {N : Nat} {K : KT} {m' : Mem} {r : Int32} (hK : KOK K cX8_cost 3 RX8 wsX8_cost 3 0 73) (hR : KRet K (some .int) (some r) m') {m : Mem} {s0 : Int32} (hF : B_X8_cost_50 N m s0 = some (r, m')) : AW K 0 50 [] [q_i s0] m := by
  unfold B_X8_cost_50 at hF
  obtain ⟨rfl, rfl⟩ := so_inj hF
  exact aw_iret hK hR rfl dX8_cost_50
def B_X8_cost_14 (N : Nat) (m : Mem) (x1 : Int32) (x2 : Int32) (s0 : Int32) : Option (Int32 × Mem) :=
  cal (F_X8_isFine N m s0) fun r6 m5 =>
  if r6 = (0 : Int32) then (
    some ((0 : Int32), m5)
  ) else (
    calv (F_X8_rests N m5 x1 x2) fun m8 =>
    gd (inb (0 : Int32) (alen 99)) <|
    if (m8 99 (ix (0 : Int32))) = (2000000000 : Int32) then (
      B_X8_cost_50 N m8 (-1 : Int32)
    ) else (
      gd (inb (0 : Int32) (alen 99)) <|
      B_X8_cost_50 N m8 (m8 99 (ix (0 : Int32)))
    )
  )
set_option maxRecDepth 100000 in
set_option maxHeartbeats 4000000 in
theorem bk_X8_cost_14 {N : Nat} {K : KT} {m' : Mem} {r : Int32} (hK : KOK K cX8_cost 3 RX8 wsX8_cost 3 0 73) (hR : KRet K (some .int) (some r) m') {m : Mem} {x1 : Int32} {x2 : Int32} {s0 : Int32} (hF : B_X8_cost_14 N m x1 x2 s0 = some (r, m')) : AW K 0 14 [(0, q_r 70), (1, q_i x1), (2, q_i x2)] [q_i s0, q_r 70] m := by
  unfold B_X8_cost_14 at hF
  obtain ⟨r6, m5, h4, hF⟩ := cal_some hF
  refine aw_cv hK 8 (as := [q_i s0]) (tr_X8_isFine h4) gX8_cost_X8_isFine rfl rfl rfl (by decide) (na := 1) (by decide +kernel) rfl ⟨by decide, by decide⟩ (Nat.zero_le _) (Nat.le_of_ble_eq_true rfl) dX8_cost_14 ?_
  refine aw_if_ne hK 22 rfl dX8_cost_17 (fun hc => ?_) (fun hc => ?_)
  · have hF := if_f hF hc
    refine aw_aload_n hK 0 rfl dX8_cost_22 ?_
    refine aw_iload_n hK 1 rfl dX8_cost_23 ?_
    refine aw_iload_n hK 2 rfl dX8_cost_24 ?_
    obtain ⟨m8, h7, hF⟩ := calv_some hF
    refine aw_cv hK 8 (as := [q_i x1, q_i x2]) (tr_X8_rests h7) gX8_cost_X8_rests rfl rfl rfl (by decide) (na := 2) (by decide +kernel) rfl ⟨by decide, by decide⟩ (Nat.zero_le _) (Nat.le_of_ble_eq_true rfl) dX8_cost_25 ?_
    refine aw_aload_n hK 0 rfl dX8_cost_28 ?_
    refine gf_8_36 hK rfl (99) rfl (List.mem_of_getElem? (i := 1) rfl) dX8_cost_29 ?_
    refine aw_iconst hK (0) rfl dX8_cost_32 ?_
    obtain ⟨g9, hF⟩ := gd_some hF
    refine aw_iald hK rfl g9 dX8_cost_33 ?_
    refine aw_ldc_w hK (2000000000) (List.mem_of_getElem? (i := 2) rfl) dX8_cost_34 ?_
    refine aw_icmp_ne hK 44 rfl dX8_cost_37 (fun hc => ?_) (fun hc => ?_)
    · have hF := if_f hF hc
      refine aw_aload_n hK 0 rfl dX8_cost_44 ?_
      refine gf_8_36 hK rfl (99) rfl (List.mem_of_getElem? (i := 1) rfl) dX8_cost_45 ?_
      refine aw_iconst hK (0) rfl dX8_cost_48 ?_
      obtain ⟨g10, hF⟩ := gd_some hF
      refine aw_iald hK rfl g10 dX8_cost_49 ?_
      refine aw_sub [] (lv' := []) rfl ?_
      exact bk_X8_cost_50 hK hR hF
    · have hF := if_t hF hc
      refine aw_iconst hK (-1) rfl dX8_cost_40 ?_
      refine aw_goto hK 50 rfl dX8_cost_41 ?_
      refine aw_sub [] (lv' := []) rfl ?_
      exact bk_X8_cost_50 hK hR hF
  · have hF := if_t hF hc
    refine aw_iconst hK (0) rfl dX8_cost_20 ?_
    obtain ⟨rfl, rfl⟩ := so_inj hF
    exact aw_iret hK hR rfl dX8_cost_21
def F_X8_cost (N : Nat) (m : Mem) (x1 : Int32) (x2 : Int32) : Option (Int32 × Mem) :=
  cal (F_X8_isMachine N m x1) fun r3 m2 =>
  if r3 = (0 : Int32) then (
    B_X8_cost_14 N m2 x1 x2 (1 : Int32)
  ) else (
    B_X8_cost_14 N m2 x1 x2 (0 : Int32)
  )
set_option maxRecDepth 100000 in
set_option maxHeartbeats 4000000 in
theorem tr_X8_cost {N : Nat} {m m' : Mem} {r : Int32} {x1 : Int32} {x2 : Int32} (hF : F_X8_cost N m x1 x2 = some (r, m')) : Tr yX8_cost wsX8_cost 3 73 [q_r 70, q_i x1, q_i x2] m (some r) m' := by
  refine tr_of (bytes := cX8_cost) (maxL := 3) (ret := (some .int)) (by decide) rfl (Nat.le_of_ble_eq_true rfl) (fun K hK hR => ?_)
  have hK : KOK K cX8_cost 3 RX8 wsX8_cost 3 0 73 := hK
  show AW K 0 0 [(0, q_r 70), (1, q_i x1), (2, q_i x2)] [] m
  unfold F_X8_cost at hF
  refine aw_aload_n hK 0 rfl dX8_cost_0 ?_
  refine aw_aload_n hK 0 rfl dX8_cost_1 ?_
  refine aw_iload_n hK 1 rfl dX8_cost_2 ?_
  obtain ⟨r3, m2, h1, hF⟩ := cal_some hF
  refine aw_cv hK 8 (as := [q_i x1]) (tr_X8_isMachine h1) gX8_cost_X8_isMachine rfl rfl rfl (by decide) (na := 1) (by decide +kernel) rfl ⟨by decide, by decide⟩ (Nat.zero_le _) (Nat.le_of_ble_eq_true rfl) dX8_cost_3 ?_
  refine aw_if_eq hK 13 rfl dX8_cost_6 (fun hc => ?_) (fun hc => ?_)
  · have hF := if_t hF hc
    refine aw_iconst hK (1) rfl dX8_cost_13 ?_
    refine aw_sub [0, 1, 2] (lv' := [(0, q_r 70), (1, q_i x1), (2, q_i x2)]) rfl ?_
    exact bk_X8_cost_14 hK hR hF
  · have hF := if_f hF hc
    refine aw_iconst hK (0) rfl dX8_cost_9 ?_
    refine aw_goto hK 14 rfl dX8_cost_10 ?_
    refine aw_sub [0, 1, 2] (lv' := [(0, q_r 70), (1, q_i x1), (2, q_i x2)]) rfl ?_
    exact bk_X8_cost_14 hK hR hF
def B_X8_closesHere_213 (N : Nat) (rec_2 : Mem → Int32 → Int32 → Int32 → Option Mem) (rec_15 : Mem → Int32 → Int32 → Int32 → Int32 → Option Mem) (m : Mem) (x1 : Int32) (x2 : Int32) (x3 : Int32) (x4 : Int32) : Option Mem :=
  bnd (x4 + (1 : Int32)) fun y20 =>
  rec_15 m x1 x2 x3 y20
set_option maxRecDepth 100000 in
set_option maxHeartbeats 4000000 in
theorem bk_X8_closesHere_213 {N : Nat} {K : KT} {m' : Mem} {rec_2 : Mem → Int32 → Int32 → Int32 → Option Mem} {rec_15 : Mem → Int32 → Int32 → Int32 → Int32 → Option Mem} (hK : KOK K cX8_closesHere 9 RX8 wsX8_closesHere 2 0 46) (hR : KRet K none none m') (hrec_2 : ∀ {m : Mem} {x1 : Int32} {x2 : Int32} {x3 : Int32}, rec_2 m x1 x2 x3 = some m' → AW K 0 2 [(0, q_r 70), (1, q_i x1), (2, q_i x2), (3, q_i x3)] [] m) (hrec_15 : ∀ {m : Mem} {x1 : Int32} {x2 : Int32} {x3 : Int32} {x4 : Int32}, rec_15 m x1 x2 x3 x4 = some m' → AW K 0 15 [(0, q_r 70), (1, q_i x1), (2, q_i x2), (3, q_i x3), (4, q_i x4)] [] m) {m : Mem} {x1 : Int32} {x2 : Int32} {x3 : Int32} {x4 : Int32} (hF : B_X8_closesHere_213 N rec_2 rec_15 m x1 x2 x3 x4 = some m') : AW K 0 213 [(0, q_r 70), (1, q_i x1), (2, q_i x2), (3, q_i x3), (4, q_i x4)] [] m := by
  unfold B_X8_closesHere_213 at hF
  obtain ⟨y20, hy20, hF⟩ := bnd_some hF
  refine aw_iinc hK (cz := 1) 4 [(4, q_i y20), (0, q_r 70), (1, q_i x1), (2, q_i x2), (3, q_i x3)] (by decide) rfl rfl hy20 rfl dX8_closesHere_213 ?_
  refine aw_goto hK 15 rfl dX8_closesHere_216 ?_
  refine aw_sub [1, 2, 3, 4, 0] (lv' := [(0, q_r 70), (1, q_i x1), (2, q_i x2), (3, q_i x3), (4, q_i y20)]) rfl ?_
  exact hrec_15 hF
def B_X8_closesHere_206 (N : Nat) (rec_2 : Mem → Int32 → Int32 → Int32 → Option Mem) (rec_15 : Mem → Int32 → Int32 → Int32 → Int32 → Option Mem) (rec_35 : Mem → Int32 → Int32 → Int32 → Int32 → Int32 → Option Mem) (m : Mem) (x1 : Int32) (x2 : Int32) (x4 : Int32) (x5 : Int32) (s0 : Int32) : Option Mem :=
  bnd (x5 + (1 : Int32)) fun y19 =>
  rec_35 m x1 x2 s0 x4 y19
set_option maxRecDepth 100000 in
set_option maxHeartbeats 4000000 in
theorem bk_X8_closesHere_206 {N : Nat} {K : KT} {m' : Mem} {rec_2 : Mem → Int32 → Int32 → Int32 → Option Mem} {rec_15 : Mem → Int32 → Int32 → Int32 → Int32 → Option Mem} {rec_35 : Mem → Int32 → Int32 → Int32 → Int32 → Int32 → Option Mem} (hK : KOK K cX8_closesHere 9 RX8 wsX8_closesHere 2 0 46) (hR : KRet K none none m') (hrec_2 : ∀ {m : Mem} {x1 : Int32} {x2 : Int32} {x3 : Int32}, rec_2 m x1 x2 x3 = some m' → AW K 0 2 [(0, q_r 70), (1, q_i x1), (2, q_i x2), (3, q_i x3)] [] m) (hrec_15 : ∀ {m : Mem} {x1 : Int32} {x2 : Int32} {x3 : Int32} {x4 : Int32}, rec_15 m x1 x2 x3 x4 = some m' → AW K 0 15 [(0, q_r 70), (1, q_i x1), (2, q_i x2), (3, q_i x3), (4, q_i x4)] [] m) (hrec_35 : ∀ {m : Mem} {x1 : Int32} {x2 : Int32} {x3 : Int32} {x4 : Int32} {x5 : Int32}, rec_35 m x1 x2 x3 x4 x5 = some m' → AW K 0 35 [(0, q_r 70), (1, q_i x1), (2, q_i x2), (3, q_i x3), (4, q_i x4), (5, q_i x5)] [] m) {m : Mem} {x1 : Int32} {x2 : Int32} {x4 : Int32} {x5 : Int32} {s0 : Int32} (hF : B_X8_closesHere_206 N rec_2 rec_15 rec_35 m x1 x2 x4 x5 s0 = some m') : AW K 0 206 [(0, q_r 70), (1, q_i x1), (2, q_i x2), (4, q_i x4), (5, q_i x5)] [q_i s0] m := by
  unfold B_X8_closesHere_206 at hF
  refine aw_istore_n hK [(3, q_i s0), (0, q_r 70), (1, q_i x1), (2, q_i x2), (4, q_i x4), (5, q_i x5)] (by decide) rfl dX8_closesHere_206 ?_
  obtain ⟨y19, hy19, hF⟩ := bnd_some hF
  refine aw_iinc hK (cz := 1) 5 [(5, q_i y19), (3, q_i s0), (0, q_r 70), (1, q_i x1), (2, q_i x2), (4, q_i x4)] (by decide) rfl rfl hy19 rfl dX8_closesHere_207 ?_
  refine aw_goto hK 35 rfl dX8_closesHere_210 ?_
  refine aw_sub [2, 3, 4, 1, 5, 0] (lv' := [(0, q_r 70), (1, q_i x1), (2, q_i x2), (3, q_i s0), (4, q_i x4), (5, q_i y19)]) rfl ?_
  exact hrec_35 hF
def B_X8_closesHere_201 (N : Nat) (rec_2 : Mem → Int32 → Int32 → Int32 → Option Mem) (rec_15 : Mem → Int32 → Int32 → Int32 → Int32 → Option Mem) (rec_35 : Mem → Int32 → Int32 → Int32 → Int32 → Int32 → Option Mem) (m : Mem) (x1 : Int32) (x2 : Int32) (x4 : Int32) (x5 : Int32) : Option Mem :=
  B_X8_closesHere_206 N rec_2 rec_15 rec_35 m x1 x2 x4 x5 (1 : Int32)
set_option maxRecDepth 100000 in
set_option maxHeartbeats 4000000 in
theorem bk_X8_closesHere_201 {N : Nat} {K : KT} {m' : Mem} {rec_2 : Mem → Int32 → Int32 → Int32 → Option Mem} {rec_15 : Mem → Int32 → Int32 → Int32 → Int32 → Option Mem} {rec_35 : Mem → Int32 → Int32 → Int32 → Int32 → Int32 → Option Mem} (hK : KOK K cX8_closesHere 9 RX8 wsX8_closesHere 2 0 46) (hR : KRet K none none m') (hrec_2 : ∀ {m : Mem} {x1 : Int32} {x2 : Int32} {x3 : Int32}, rec_2 m x1 x2 x3 = some m' → AW K 0 2 [(0, q_r 70), (1, q_i x1), (2, q_i x2), (3, q_i x3)] [] m) (hrec_15 : ∀ {m : Mem} {x1 : Int32} {x2 : Int32} {x3 : Int32} {x4 : Int32}, rec_15 m x1 x2 x3 x4 = some m' → AW K 0 15 [(0, q_r 70), (1, q_i x1), (2, q_i x2), (3, q_i x3), (4, q_i x4)] [] m) (hrec_35 : ∀ {m : Mem} {x1 : Int32} {x2 : Int32} {x3 : Int32} {x4 : Int32} {x5 : Int32}, rec_35 m x1 x2 x3 x4 x5 = some m' → AW K 0 35 [(0, q_r 70), (1, q_i x1), (2, q_i x2), (3, q_i x3), (4, q_i x4), (5, q_i x5)] [] m) {m : Mem} {x1 : Int32} {x2 : Int32} {x4 : Int32} {x5 : Int32} (hF : B_X8_closesHere_201 N rec_2 rec_15 rec_35 m x1 x2 x4 x5 = some m') : AW K 0 201 [(0, q_r 70), (1, q_i x1), (2, q_i x2), (4, q_i x4), (5, q_i x5)] [] m := by
  unfold B_X8_closesHere_201 at hF
  refine aw_iconst hK (1) rfl dX8_closesHere_201 ?_
  refine aw_goto hK 206 rfl dX8_closesHere_202 ?_
  refine aw_sub [0, 1, 2, 3, 4] (lv' := [(0, q_r 70), (1, q_i x1), (2, q_i x2), (4, q_i x4), (5, q_i x5)]) rfl ?_
  exact bk_X8_closesHere_206 hK hR hrec_2 hrec_15 hrec_35 hF
def B_X8_closesHere_192 (N : Nat) (rec_2 : Mem → Int32 → Int32 → Int32 → Option Mem) (rec_15 : Mem → Int32 → Int32 → Int32 → Int32 → Option Mem) (rec_35 : Mem → Int32 → Int32 → Int32 → Int32 → Int32 → Option Mem) (m : Mem) (x1 : Int32) (x2 : Int32) (x3 : Int32) (x4 : Int32) (x5 : Int32) (x8 : Int32) : Option Mem :=
  if x3 = (0 : Int32) then (
    if x8 = (0 : Int32) then (
      B_X8_closesHere_206 N rec_2 rec_15 rec_35 m x1 x2 x4 x5 (0 : Int32)
    ) else (
      B_X8_closesHere_201 N rec_2 rec_15 rec_35 m x1 x2 x4 x5
    )
  ) else (
    B_X8_closesHere_201 N rec_2 rec_15 rec_35 m x1 x2 x4 x5
  )
set_option maxRecDepth 100000 in
set_option maxHeartbeats 4000000 in
theorem bk_X8_closesHere_192 {N : Nat} {K : KT} {m' : Mem} {rec_2 : Mem → Int32 → Int32 → Int32 → Option Mem} {rec_15 : Mem → Int32 → Int32 → Int32 → Int32 → Option Mem} {rec_35 : Mem → Int32 → Int32 → Int32 → Int32 → Int32 → Option Mem} (hK : KOK K cX8_closesHere 9 RX8 wsX8_closesHere 2 0 46) (hR : KRet K none none m') (hrec_2 : ∀ {m : Mem} {x1 : Int32} {x2 : Int32} {x3 : Int32}, rec_2 m x1 x2 x3 = some m' → AW K 0 2 [(0, q_r 70), (1, q_i x1), (2, q_i x2), (3, q_i x3)] [] m) (hrec_15 : ∀ {m : Mem} {x1 : Int32} {x2 : Int32} {x3 : Int32} {x4 : Int32}, rec_15 m x1 x2 x3 x4 = some m' → AW K 0 15 [(0, q_r 70), (1, q_i x1), (2, q_i x2), (3, q_i x3), (4, q_i x4)] [] m) (hrec_35 : ∀ {m : Mem} {x1 : Int32} {x2 : Int32} {x3 : Int32} {x4 : Int32} {x5 : Int32}, rec_35 m x1 x2 x3 x4 x5 = some m' → AW K 0 35 [(0, q_r 70), (1, q_i x1), (2, q_i x2), (3, q_i x3), (4, q_i x4), (5, q_i x5)] [] m) {m : Mem} {x1 : Int32} {x2 : Int32} {x3 : Int32} {x4 : Int32} {x5 : Int32} {x8 : Int32} (hF : B_X8_closesHere_192 N rec_2 rec_15 rec_35 m x1 x2 x3 x4 x5 x8 = some m') : AW K 0 192 [(0, q_r 70), (1, q_i x1), (2, q_i x2), (3, q_i x3), (4, q_i x4), (5, q_i x5), (8, q_i x8)] [] m := by
  unfold B_X8_closesHere_192 at hF
  refine aw_iload_n hK 3 rfl dX8_closesHere_192 ?_
  refine aw_if_ne hK 201 rfl dX8_closesHere_193 (fun hc => ?_) (fun hc => ?_)
  · have hF := if_f hF hc
    refine aw_sub [0, 1, 2, 4, 5] (lv' := [(0, q_r 70), (1, q_i x1), (2, q_i x2), (4, q_i x4), (5, q_i x5)]) rfl ?_
    exact bk_X8_closesHere_201 hK hR hrec_2 hrec_15 hrec_35 hF
  · have hF := if_t hF hc
    refine aw_iload hK 6 rfl dX8_closesHere_196 ?_
    refine aw_if_eq hK 205 rfl dX8_closesHere_198 (fun hc => ?_) (fun hc => ?_)
    · have hF := if_t hF hc
      refine aw_iconst hK (0) rfl dX8_closesHere_205 ?_
      refine aw_sub [0, 1, 2, 4, 5] (lv' := [(0, q_r 70), (1, q_i x1), (2, q_i x2), (4, q_i x4), (5, q_i x5)]) rfl ?_
      exact bk_X8_closesHere_206 hK hR hrec_2 hrec_15 hrec_35 hF
    · have hF := if_f hF hc
      refine aw_sub [0, 1, 2, 4, 5] (lv' := [(0, q_r 70), (1, q_i x1), (2, q_i x2), (4, q_i x4), (5, q_i x5)]) rfl ?_
      exact bk_X8_closesHere_201 hK hR hrec_2 hrec_15 hrec_35 hF
def B_X8_closesHere_165 (N : Nat) (rec_2 : Mem → Int32 → Int32 → Int32 → Option Mem) (rec_15 : Mem → Int32 → Int32 → Int32 → Int32 → Option Mem) (rec_35 : Mem → Int32 → Int32 → Int32 → Int32 → Int32 → Option Mem) (m : Mem) (x1 : Int32) (x2 : Int32) (x3 : Int32) (x4 : Int32) (x5 : Int32) (x6 : Int32) (x7 : Int32) (s0 : Int32) : Option Mem :=
  if s0 = (0 : Int32) then (
    B_X8_closesHere_192 N rec_2 rec_15 rec_35 m x1 x2 x3 x4 x5 s0
  ) else (
    gd (inb x4 (alen 79)) <|
    gd (inb (((32 : Int32) * x6) + (m 79 (ix x4))) (alen 100)) <|
    bnd (mup m 100 (ix (((32 : Int32) * x6) + (m 79 (ix x4)))) x7) fun m18 =>
    B_X8_closesHere_192 N rec_2 rec_15 rec_35 m18 x1 x2 x3 x4 x5 s0
  )
set_option maxRecDepth 100000 in
set_option maxHeartbeats 4000000 in
theorem bk_X8_closesHere_165 {N : Nat} {K : KT} {m' : Mem} {rec_2 : Mem → Int32 → Int32 → Int32 → Option Mem} {rec_15 : Mem → Int32 → Int32 → Int32 → Int32 → Option Mem} {rec_35 : Mem → Int32 → Int32 → Int32 → Int32 → Int32 → Option Mem} (hK : KOK K cX8_closesHere 9 RX8 wsX8_closesHere 2 0 46) (hR : KRet K none none m') (hrec_2 : ∀ {m : Mem} {x1 : Int32} {x2 : Int32} {x3 : Int32}, rec_2 m x1 x2 x3 = some m' → AW K 0 2 [(0, q_r 70), (1, q_i x1), (2, q_i x2), (3, q_i x3)] [] m) (hrec_15 : ∀ {m : Mem} {x1 : Int32} {x2 : Int32} {x3 : Int32} {x4 : Int32}, rec_15 m x1 x2 x3 x4 = some m' → AW K 0 15 [(0, q_r 70), (1, q_i x1), (2, q_i x2), (3, q_i x3), (4, q_i x4)] [] m) (hrec_35 : ∀ {m : Mem} {x1 : Int32} {x2 : Int32} {x3 : Int32} {x4 : Int32} {x5 : Int32}, rec_35 m x1 x2 x3 x4 x5 = some m' → AW K 0 35 [(0, q_r 70), (1, q_i x1), (2, q_i x2), (3, q_i x3), (4, q_i x4), (5, q_i x5)] [] m) {m : Mem} {x1 : Int32} {x2 : Int32} {x3 : Int32} {x4 : Int32} {x5 : Int32} {x6 : Int32} {x7 : Int32} {s0 : Int32} (hF : B_X8_closesHere_165 N rec_2 rec_15 rec_35 m x1 x2 x3 x4 x5 x6 x7 s0 = some m') : AW K 0 165 [(0, q_r 70), (1, q_i x1), (2, q_i x2), (3, q_i x3), (4, q_i x4), (5, q_i x5), (6, q_i x6), (7, q_i x7)] [q_i s0] m := by
  unfold B_X8_closesHere_165 at hF
  refine aw_istore hK [(8, q_i s0), (0, q_r 70), (1, q_i x1), (2, q_i x2), (3, q_i x3), (4, q_i x4), (5, q_i x5), (6, q_i x6), (7, q_i x7)] (by decide) rfl dX8_closesHere_165 ?_
  refine aw_iload hK 0 rfl dX8_closesHere_167 ?_
  refine aw_if_eq hK 192 rfl dX8_closesHere_169 (fun hc => ?_) (fun hc => ?_)
  · have hF := if_t hF hc
    refine aw_sub [1, 2, 3, 4, 5, 6, 0] (lv' := [(0, q_r 70), (1, q_i x1), (2, q_i x2), (3, q_i x3), (4, q_i x4), (5, q_i x5), (8, q_i s0)]) rfl ?_
    exact bk_X8_closesHere_192 hK hR hrec_2 hrec_15 hrec_35 hF
  · have hF := if_f hF hc
    refine aw_aload_n hK 1 rfl dX8_closesHere_172 ?_
    refine gf_8_37 hK rfl (100) rfl (List.mem_of_getElem? (i := 3) rfl) dX8_closesHere_173 ?_
    refine aw_bipush hK (32) rfl dX8_closesHere_176 ?_
    refine aw_iload hK 7 rfl dX8_closesHere_178 ?_
    refine aw_imul hK dX8_closesHere_180 ?_
    refine aw_aload_n hK 1 rfl dX8_closesHere_181 ?_
    refine gf_8_10 hK rfl (79) rfl (List.mem_of_getElem? (i := 7) rfl) dX8_closesHere_182 ?_
    refine aw_iload hK 5 rfl dX8_closesHere_185 ?_
    obtain ⟨g16, hF⟩ := gd_some hF
    refine aw_iald hK rfl g16 dX8_closesHere_187 ?_
    refine aw_iadd hK dX8_closesHere_188 ?_
    refine aw_iload hK 8 rfl dX8_closesHere_189 ?_
    obtain ⟨g17, hF⟩ := gd_some hF
    refine aw_iast hK rfl g17 dX8_closesHere_191 ?_
    obtain ⟨m18, hm18, hF⟩ := bnd_some hF
    refine aw_mm hm18 ?_
    refine aw_sub [1, 2, 3, 4, 5, 6, 0] (lv' := [(0, q_r 70), (1, q_i x1), (2, q_i x2), (3, q_i x3), (4, q_i x4), (5, q_i x5), (8, q_i s0)]) rfl ?_
    exact bk_X8_closesHere_192 hK hR hrec_2 hrec_15 hrec_35 hF
def B_X8_closesHere_164 (N : Nat) (rec_2 : Mem → Int32 → Int32 → Int32 → Option Mem) (rec_15 : Mem → Int32 → Int32 → Int32 → Int32 → Option Mem) (rec_35 : Mem → Int32 → Int32 → Int32 → Int32 → Int32 → Option Mem) (m : Mem) (x1 : Int32) (x2 : Int32) (x3 : Int32) (x4 : Int32) (x5 : Int32) (x6 : Int32) (x7 : Int32) : Option Mem :=
  B_X8_closesHere_165 N rec_2 rec_15 rec_35 m x1 x2 x3 x4 x5 x6 x7 (0 : Int32)
set_option maxRecDepth 100000 in
set_option maxHeartbeats 4000000 in
theorem bk_X8_closesHere_164 {N : Nat} {K : KT} {m' : Mem} {rec_2 : Mem → Int32 → Int32 → Int32 → Option Mem} {rec_15 : Mem → Int32 → Int32 → Int32 → Int32 → Option Mem} {rec_35 : Mem → Int32 → Int32 → Int32 → Int32 → Int32 → Option Mem} (hK : KOK K cX8_closesHere 9 RX8 wsX8_closesHere 2 0 46) (hR : KRet K none none m') (hrec_2 : ∀ {m : Mem} {x1 : Int32} {x2 : Int32} {x3 : Int32}, rec_2 m x1 x2 x3 = some m' → AW K 0 2 [(0, q_r 70), (1, q_i x1), (2, q_i x2), (3, q_i x3)] [] m) (hrec_15 : ∀ {m : Mem} {x1 : Int32} {x2 : Int32} {x3 : Int32} {x4 : Int32}, rec_15 m x1 x2 x3 x4 = some m' → AW K 0 15 [(0, q_r 70), (1, q_i x1), (2, q_i x2), (3, q_i x3), (4, q_i x4)] [] m) (hrec_35 : ∀ {m : Mem} {x1 : Int32} {x2 : Int32} {x3 : Int32} {x4 : Int32} {x5 : Int32}, rec_35 m x1 x2 x3 x4 x5 = some m' → AW K 0 35 [(0, q_r 70), (1, q_i x1), (2, q_i x2), (3, q_i x3), (4, q_i x4), (5, q_i x5)] [] m) {m : Mem} {x1 : Int32} {x2 : Int32} {x3 : Int32} {x4 : Int32} {x5 : Int32} {x6 : Int32} {x7 : Int32} (hF : B_X8_closesHere_164 N rec_2 rec_15 rec_35 m x1 x2 x3 x4 x5 x6 x7 = some m') : AW K 0 164 [(0, q_r 70), (1, q_i x1), (2, q_i x2), (3, q_i x3), (4, q_i x4), (5, q_i x5), (6, q_i x6), (7, q_i x7)] [] m := by
  unfold B_X8_closesHere_164 at hF
  refine aw_iconst hK (0) rfl dX8_closesHere_164 ?_
  refine aw_sub [0, 1, 2, 3, 4, 5, 6, 7] (lv' := [(0, q_r 70), (1, q_i x1), (2, q_i x2), (3, q_i x3), (4, q_i x4), (5, q_i x5), (6, q_i x6), (7, q_i x7)]) rfl ?_
  exact bk_X8_closesHere_165 hK hR hrec_2 hrec_15 hrec_35 hF
def B_X8_closesHere_129 (N : Nat) (rec_2 : Mem → Int32 → Int32 → Int32 → Option Mem) (rec_15 : Mem → Int32 → Int32 → Int32 → Int32 → Option Mem) (rec_35 : Mem → Int32 → Int32 → Int32 → Int32 → Int32 → Option Mem) (m : Mem) (x1 : Int32) (x2 : Int32) (x3 : Int32) (x4 : Int32) (x5 : Int32) (x6 : Int32) (s0 : Int32) : Option Mem :=
  if x6 = (-1 : Int32) then (
    B_X8_closesHere_164 N rec_2 rec_15 rec_35 m x1 x2 x3 x4 x5 x6 s0
  ) else (
    gd (inb x4 (alen 79)) <|
    gd (inb (((32 : Int32) * x6) + (m 79 (ix x4))) (alen 100)) <|
    if (m 100 (ix (((32 : Int32) * x6) + (m 79 (ix x4))))) ≤ s0 then (
      B_X8_closesHere_164 N rec_2 rec_15 rec_35 m x1 x2 x3 x4 x5 x6 s0
    ) else (
      B_X8_closesHere_165 N rec_2 rec_15 rec_35 m x1 x2 x3 x4 x5 x6 s0 (1 : Int32)
    )
  )
set_option maxRecDepth 100000 in
set_option maxHeartbeats 4000000 in
theorem bk_X8_closesHere_129 {N : Nat} {K : KT} {m' : Mem} {rec_2 : Mem → Int32 → Int32 → Int32 → Option Mem} {rec_15 : Mem → Int32 → Int32 → Int32 → Int32 → Option Mem} {rec_35 : Mem → Int32 → Int32 → Int32 → Int32 → Int32 → Option Mem} (hK : KOK K cX8_closesHere 9 RX8 wsX8_closesHere 2 0 46) (hR : KRet K none none m') (hrec_2 : ∀ {m : Mem} {x1 : Int32} {x2 : Int32} {x3 : Int32}, rec_2 m x1 x2 x3 = some m' → AW K 0 2 [(0, q_r 70), (1, q_i x1), (2, q_i x2), (3, q_i x3)] [] m) (hrec_15 : ∀ {m : Mem} {x1 : Int32} {x2 : Int32} {x3 : Int32} {x4 : Int32}, rec_15 m x1 x2 x3 x4 = some m' → AW K 0 15 [(0, q_r 70), (1, q_i x1), (2, q_i x2), (3, q_i x3), (4, q_i x4)] [] m) (hrec_35 : ∀ {m : Mem} {x1 : Int32} {x2 : Int32} {x3 : Int32} {x4 : Int32} {x5 : Int32}, rec_35 m x1 x2 x3 x4 x5 = some m' → AW K 0 35 [(0, q_r 70), (1, q_i x1), (2, q_i x2), (3, q_i x3), (4, q_i x4), (5, q_i x5)] [] m) {m : Mem} {x1 : Int32} {x2 : Int32} {x3 : Int32} {x4 : Int32} {x5 : Int32} {x6 : Int32} {s0 : Int32} (hF : B_X8_closesHere_129 N rec_2 rec_15 rec_35 m x1 x2 x3 x4 x5 x6 s0 = some m') : AW K 0 129 [(0, q_r 70), (1, q_i x1), (2, q_i x2), (3, q_i x3), (4, q_i x4), (5, q_i x5), (6, q_i x6)] [q_i s0] m := by
  unfold B_X8_closesHere_129 at hF
  refine aw_istore hK [(7, q_i s0), (0, q_r 70), (1, q_i x1), (2, q_i x2), (3, q_i x3), (4, q_i x4), (5, q_i x5), (6, q_i x6)] (by decide) rfl dX8_closesHere_129 ?_
  refine aw_iload hK 7 rfl dX8_closesHere_131 ?_
  refine aw_iconst hK (-1) rfl dX8_closesHere_133 ?_
  refine aw_icmp_eq hK 164 rfl dX8_closesHere_134 (fun hc => ?_) (fun hc => ?_)
  · have hF := if_t hF hc
    refine aw_sub [1, 2, 3, 4, 5, 6, 7, 0] (lv' := [(0, q_r 70), (1, q_i x1), (2, q_i x2), (3, q_i x3), (4, q_i x4), (5, q_i x5), (6, q_i x6), (7, q_i s0)]) rfl ?_
    exact bk_X8_closesHere_164 hK hR hrec_2 hrec_15 hrec_35 hF
  · have hF := if_f hF hc
    refine aw_iload hK 0 rfl dX8_closesHere_137 ?_
    refine aw_aload_n hK 1 rfl dX8_closesHere_139 ?_
    refine gf_8_37 hK rfl (100) rfl (List.mem_of_getElem? (i := 3) rfl) dX8_closesHere_140 ?_
    refine aw_bipush hK (32) rfl dX8_closesHere_143 ?_
    refine aw_iload hK 7 rfl dX8_closesHere_145 ?_
    refine aw_imul hK dX8_closesHere_147 ?_
    refine aw_aload_n hK 1 rfl dX8_closesHere_148 ?_
    refine gf_8_10 hK rfl (79) rfl (List.mem_of_getElem? (i := 7) rfl) dX8_closesHere_149 ?_
    refine aw_iload hK 5 rfl dX8_closesHere_152 ?_
    obtain ⟨g14, hF⟩ := gd_some hF
    refine aw_iald hK rfl g14 dX8_closesHere_154 ?_
    refine aw_iadd hK dX8_closesHere_155 ?_
    obtain ⟨g15, hF⟩ := gd_some hF
    refine aw_iald hK rfl g15 dX8_closesHere_156 ?_
    refine aw_icmp_ge hK 164 rfl dX8_closesHere_157 (fun hc => ?_) (fun hc => ?_)
    · have hF := if_t hF hc
      refine aw_sub [1, 2, 3, 4, 5, 6, 7, 0] (lv' := [(0, q_r 70), (1, q_i x1), (2, q_i x2), (3, q_i x3), (4, q_i x4), (5, q_i x5), (6, q_i x6), (7, q_i s0)]) rfl ?_
      exact bk_X8_closesHere_164 hK hR hrec_2 hrec_15 hrec_35 hF
    · have hF := if_f hF hc
      refine aw_iconst hK (1) rfl dX8_closesHere_160 ?_
      refine aw_goto hK 165 rfl dX8_closesHere_161 ?_
      refine aw_sub [1, 2, 3, 4, 5, 6, 7, 0] (lv' := [(0, q_r 70), (1, q_i x1), (2, q_i x2), (3, q_i x3), (4, q_i x4), (5, q_i x5), (6, q_i x6), (7, q_i s0)]) rfl ?_
      exact bk_X8_closesHere_165 hK hR hrec_2 hrec_15 hrec_35 hF
def B_X8_closesHere_97 (N : Nat) (rec_2 : Mem → Int32 → Int32 → Int32 → Option Mem) (rec_15 : Mem → Int32 → Int32 → Int32 → Int32 → Option Mem) (rec_35 : Mem → Int32 → Int32 → Int32 → Int32 → Int32 → Option Mem) (m : Mem) (x1 : Int32) (x2 : Int32) (x3 : Int32) (x4 : Int32) (x5 : Int32) (x6 : Int32) : Option Mem :=
  B_X8_closesHere_129 N rec_2 rec_15 rec_35 m x1 x2 x3 x4 x5 x6 (2000000000 : Int32)
set_option maxRecDepth 100000 in
set_option maxHeartbeats 4000000 in
theorem bk_X8_closesHere_97 {N : Nat} {K : KT} {m' : Mem} {rec_2 : Mem → Int32 → Int32 → Int32 → Option Mem} {rec_15 : Mem → Int32 → Int32 → Int32 → Int32 → Option Mem} {rec_35 : Mem → Int32 → Int32 → Int32 → Int32 → Int32 → Option Mem} (hK : KOK K cX8_closesHere 9 RX8 wsX8_closesHere 2 0 46) (hR : KRet K none none m') (hrec_2 : ∀ {m : Mem} {x1 : Int32} {x2 : Int32} {x3 : Int32}, rec_2 m x1 x2 x3 = some m' → AW K 0 2 [(0, q_r 70), (1, q_i x1), (2, q_i x2), (3, q_i x3)] [] m) (hrec_15 : ∀ {m : Mem} {x1 : Int32} {x2 : Int32} {x3 : Int32} {x4 : Int32}, rec_15 m x1 x2 x3 x4 = some m' → AW K 0 15 [(0, q_r 70), (1, q_i x1), (2, q_i x2), (3, q_i x3), (4, q_i x4)] [] m) (hrec_35 : ∀ {m : Mem} {x1 : Int32} {x2 : Int32} {x3 : Int32} {x4 : Int32} {x5 : Int32}, rec_35 m x1 x2 x3 x4 x5 = some m' → AW K 0 35 [(0, q_r 70), (1, q_i x1), (2, q_i x2), (3, q_i x3), (4, q_i x4), (5, q_i x5)] [] m) {m : Mem} {x1 : Int32} {x2 : Int32} {x3 : Int32} {x4 : Int32} {x5 : Int32} {x6 : Int32} (hF : B_X8_closesHere_97 N rec_2 rec_15 rec_35 m x1 x2 x3 x4 x5 x6 = some m') : AW K 0 97 [(0, q_r 70), (1, q_i x1), (2, q_i x2), (3, q_i x3), (4, q_i x4), (5, q_i x5), (6, q_i x6)] [] m := by
  unfold B_X8_closesHere_97 at hF
  refine aw_ldc_w hK (2000000000) (List.mem_of_getElem? (i := 5) rfl) dX8_closesHere_97 ?_
  refine aw_goto hK 129 rfl dX8_closesHere_100 ?_
  refine aw_sub [0, 1, 2, 3, 4, 5, 6] (lv' := [(0, q_r 70), (1, q_i x1), (2, q_i x2), (3, q_i x3), (4, q_i x4), (5, q_i x5), (6, q_i x6)]) rfl ?_
  exact bk_X8_closesHere_129 hK hR hrec_2 hrec_15 hrec_35 hF
def S_X8_closesHere_35 (N : Nat) (rec_2 : Mem → Int32 → Int32 → Int32 → Option Mem) (rec_15 : Mem → Int32 → Int32 → Int32 → Int32 → Option Mem) (rec_35 : Mem → Int32 → Int32 → Int32 → Int32 → Int32 → Option Mem) (m : Mem) (x1 : Int32) (x2 : Int32) (x3 : Int32) (x4 : Int32) (x5 : Int32) : Option Mem :=
  if (m 70 2) < x5 then (
    B_X8_closesHere_213 N rec_2 rec_15 m x1 x2 x3 x4
  ) else (
    cal (F_X8_outOf N m x4 x2) fun r5 m4 =>
    if r5 = (8 : Int32) then (
      cal (F_X8_behind N m4 x4 x5 x2) fun r8 m7 =>
      if r8 = (-1 : Int32) then (
        B_X8_closesHere_97 N rec_2 rec_15 rec_35 m7 x1 x2 x3 x4 x5 r8
      ) else (
        gd (inb x4 (alen 75)) <|
        gd (inb (((32 : Int32) * x5) + (m7 75 (ix x4))) (alen 100)) <|
        if (m7 100 (ix (((32 : Int32) * x5) + (m7 75 (ix x4))))) = (2000000000 : Int32) then (
          B_X8_closesHere_97 N rec_2 rec_15 rec_35 m7 x1 x2 x3 x4 x5 r8
        ) else (
          gd (inb x4 (alen 75)) <|
          gd (inb (((32 : Int32) * x5) + (m7 75 (ix x4))) (alen 100)) <|
          gd (inb x4 (alen 78)) <|
          B_X8_closesHere_129 N rec_2 rec_15 rec_35 m7 x1 x2 x3 x4 x5 r8 ((m7 100 (ix (((32 : Int32) * x5) + (m7 75 (ix x4))))) + (m7 78 (ix x4)))
        )
      )
    ) else (
      B_X8_closesHere_213 N rec_2 rec_15 m4 x1 x2 x3 x4
    )
  )
def L_X8_closesHere_35 (N : Nat) (rec_2 : Mem → Int32 → Int32 → Int32 → Option Mem) (rec_15 : Mem → Int32 → Int32 → Int32 → Int32 → Option Mem) : Nat → Mem → Int32 → Int32 → Int32 → Int32 → Int32 → Option Mem
  | 0 => fun _ _ _ _ _ _ => none
  | f + 1 => S_X8_closesHere_35 N rec_2 rec_15 (L_X8_closesHere_35 N rec_2 rec_15 f)
set_option maxRecDepth 100000 in
set_option maxHeartbeats 4000000 in
theorem lp_X8_closesHere_35 {N : Nat} {K : KT} {m' : Mem} {rec_2 : Mem → Int32 → Int32 → Int32 → Option Mem} {rec_15 : Mem → Int32 → Int32 → Int32 → Int32 → Option Mem} (hK : KOK K cX8_closesHere 9 RX8 wsX8_closesHere 2 0 46) (hR : KRet K none none m') (hrec_2 : ∀ {m : Mem} {x1 : Int32} {x2 : Int32} {x3 : Int32}, rec_2 m x1 x2 x3 = some m' → AW K 0 2 [(0, q_r 70), (1, q_i x1), (2, q_i x2), (3, q_i x3)] [] m) (hrec_15 : ∀ {m : Mem} {x1 : Int32} {x2 : Int32} {x3 : Int32} {x4 : Int32}, rec_15 m x1 x2 x3 x4 = some m' → AW K 0 15 [(0, q_r 70), (1, q_i x1), (2, q_i x2), (3, q_i x3), (4, q_i x4)] [] m) : ∀ (f : Nat) {m : Mem} {x1 : Int32} {x2 : Int32} {x3 : Int32} {x4 : Int32} {x5 : Int32}, L_X8_closesHere_35 N rec_2 rec_15 f m x1 x2 x3 x4 x5 = some m' → AW K 0 35 [(0, q_r 70), (1, q_i x1), (2, q_i x2), (3, q_i x3), (4, q_i x4), (5, q_i x5)] [] m := by
  intro f
  induction f with
  | zero => intro m x1 x2 x3 x4 x5 hF; cases hF
  | succ f hrec_35 =>
    intro m x1 x2 x3 x4 x5 hF
    have hF : S_X8_closesHere_35 N rec_2 rec_15 (L_X8_closesHere_35 N rec_2 rec_15 f) m x1 x2 x3 x4 x5 = some m' := hF
    unfold S_X8_closesHere_35 at hF
    refine aw_iload hK 5 rfl dX8_closesHere_35 ?_
    refine aw_aload_n hK 0 rfl dX8_closesHere_37 ?_
    refine gf_8_2 hK rfl (List.mem_of_getElem? (i := 2) rfl) dX8_closesHere_38 ?_
    refine aw_icmp_gt hK 213 rfl dX8_closesHere_41 (fun hc => ?_) (fun hc => ?_)
    · have hF := if_t hF hc
      refine aw_sub [0, 1, 2, 3, 4] (lv' := [(0, q_r 70), (1, q_i x1), (2, q_i x2), (3, q_i x3), (4, q_i x4)]) rfl ?_
      exact bk_X8_closesHere_213 hK hR hrec_2 hrec_15 hF
    · have hF := if_f hF hc
      refine aw_aload_n hK 0 rfl dX8_closesHere_44 ?_
      refine aw_iload hK 4 rfl dX8_closesHere_45 ?_
      refine aw_iload_n hK 2 rfl dX8_closesHere_47 ?_
      obtain ⟨r5, m4, h3, hF⟩ := cal_some hF
      refine aw_cv hK 8 (as := [q_i x4, q_i x2]) (tr_X8_outOf h3) gX8_closesHere_X8_outOf rfl rfl rfl (by decide) (na := 2) (by decide +kernel) rfl ⟨by decide, by decide⟩ (Nat.zero_le _) (Nat.le_of_ble_eq_true rfl) dX8_closesHere_48 ?_
      refine aw_bipush hK (8) rfl dX8_closesHere_51 ?_
      refine aw_icmp_ne hK 213 rfl dX8_closesHere_53 (fun hc => ?_) (fun hc => ?_)
      · have hF := if_f hF hc
        refine aw_sub [0, 1, 2, 3, 4] (lv' := [(0, q_r 70), (1, q_i x1), (2, q_i x2), (3, q_i x3), (4, q_i x4)]) rfl ?_
        exact bk_X8_closesHere_213 hK hR hrec_2 hrec_15 hF
      · have hF := if_t hF hc
        refine aw_aload_n hK 0 rfl dX8_closesHere_56 ?_
        refine aw_iload hK 4 rfl dX8_closesHere_57 ?_
        refine aw_iload hK 5 rfl dX8_closesHere_59 ?_
        refine aw_iload_n hK 2 rfl dX8_closesHere_61 ?_
        obtain ⟨r8, m7, h6, hF⟩ := cal_some hF
        refine aw_cv hK 8 (as := [q_i x4, q_i x5, q_i x2]) (tr_X8_behind h6) gX8_closesHere_X8_behind rfl rfl rfl (by decide) (na := 3) (by decide +kernel) rfl ⟨by decide, by decide⟩ (Nat.zero_le _) (Nat.le_of_ble_eq_true rfl) dX8_closesHere_62 ?_
        refine aw_istore hK [(6, q_i r8), (0, q_r 70), (1, q_i x1), (2, q_i x2), (3, q_i x3), (4, q_i x4), (5, q_i x5)] (by decide) rfl dX8_closesHere_65 ?_
        refine aw_iload hK 0 rfl dX8_closesHere_67 ?_
        refine aw_iconst hK (-1) rfl dX8_closesHere_69 ?_
        refine aw_icmp_eq hK 97 rfl dX8_closesHere_70 (fun hc => ?_) (fun hc => ?_)
        · have hF := if_t hF hc
          refine aw_sub [1, 2, 3, 4, 5, 6, 0] (lv' := [(0, q_r 70), (1, q_i x1), (2, q_i x2), (3, q_i x3), (4, q_i x4), (5, q_i x5), (6, q_i r8)]) rfl ?_
          exact bk_X8_closesHere_97 hK hR hrec_2 hrec_15 hrec_35 hF
        · have hF := if_f hF hc
          refine aw_aload_n hK 1 rfl dX8_closesHere_73 ?_
          refine gf_8_37 hK rfl (100) rfl (List.mem_of_getElem? (i := 3) rfl) dX8_closesHere_74 ?_
          refine aw_bipush hK (32) rfl dX8_closesHere_77 ?_
          refine aw_iload hK 6 rfl dX8_closesHere_79 ?_
          refine aw_imul hK dX8_closesHere_81 ?_
          refine aw_aload_n hK 1 rfl dX8_closesHere_82 ?_
          refine gf_8_6 hK rfl (75) rfl (List.mem_of_getElem? (i := 4) rfl) dX8_closesHere_83 ?_
          refine aw_iload hK 5 rfl dX8_closesHere_86 ?_
          obtain ⟨g9, hF⟩ := gd_some hF
          refine aw_iald hK rfl g9 dX8_closesHere_88 ?_
          refine aw_iadd hK dX8_closesHere_89 ?_
          obtain ⟨g10, hF⟩ := gd_some hF
          refine aw_iald hK rfl g10 dX8_closesHere_90 ?_
          refine aw_ldc_w hK (2000000000) (List.mem_of_getElem? (i := 5) rfl) dX8_closesHere_91 ?_
          refine aw_icmp_ne hK 103 rfl dX8_closesHere_94 (fun hc => ?_) (fun hc => ?_)
          · have hF := if_f hF hc
            refine aw_aload_n hK 1 rfl dX8_closesHere_103 ?_
            refine gf_8_37 hK rfl (100) rfl (List.mem_of_getElem? (i := 3) rfl) dX8_closesHere_104 ?_
            refine aw_bipush hK (32) rfl dX8_closesHere_107 ?_
            refine aw_iload hK 6 rfl dX8_closesHere_109 ?_
            refine aw_imul hK dX8_closesHere_111 ?_
            refine aw_aload_n hK 1 rfl dX8_closesHere_112 ?_
            refine gf_8_6 hK rfl (75) rfl (List.mem_of_getElem? (i := 4) rfl) dX8_closesHere_113 ?_
            refine aw_iload hK 5 rfl dX8_closesHere_116 ?_
            obtain ⟨g11, hF⟩ := gd_some hF
            refine aw_iald hK rfl g11 dX8_closesHere_118 ?_
            refine aw_iadd hK dX8_closesHere_119 ?_
            obtain ⟨g12, hF⟩ := gd_some hF
            refine aw_iald hK rfl g12 dX8_closesHere_120 ?_
            refine aw_aload_n hK 1 rfl dX8_closesHere_121 ?_
            refine gf_8_9 hK rfl (78) rfl (List.mem_of_getElem? (i := 6) rfl) dX8_closesHere_122 ?_
            refine aw_iload hK 5 rfl dX8_closesHere_125 ?_
            obtain ⟨g13, hF⟩ := gd_some hF
            refine aw_iald hK rfl g13 dX8_closesHere_127 ?_
            refine aw_iadd hK dX8_closesHere_128 ?_
            refine aw_sub [1, 2, 3, 4, 5, 6, 0] (lv' := [(0, q_r 70), (1, q_i x1), (2, q_i x2), (3, q_i x3), (4, q_i x4), (5, q_i x5), (6, q_i r8)]) rfl ?_
            exact bk_X8_closesHere_129 hK hR hrec_2 hrec_15 hrec_35 hF
          · have hF := if_t hF hc
            refine aw_sub [1, 2, 3, 4, 5, 6, 0] (lv' := [(0, q_r 70), (1, q_i x1), (2, q_i x2), (3, q_i x3), (4, q_i x4), (5, q_i x5), (6, q_i r8)]) rfl ?_
            exact bk_X8_closesHere_97 hK hR hrec_2 hrec_15 hrec_35 hF
def S_X8_closesHere_15 (N : Nat) (rec_2 : Mem → Int32 → Int32 → Int32 → Option Mem) (rec_15 : Mem → Int32 → Int32 → Int32 → Int32 → Option Mem) (m : Mem) (x1 : Int32) (x2 : Int32) (x3 : Int32) (x4 : Int32) : Option Mem :=
  gd (inb x1 (alen 74)) <|
  if (((160 : Int32) * x1) + (m 74 (ix x1))) ≤ x4 then (
    rec_2 m x1 x2 x3
  ) else (
    L_X8_closesHere_35 N rec_2 rec_15 N m x1 x2 x3 x4 (0 : Int32)
  )
def L_X8_closesHere_15 (N : Nat) (rec_2 : Mem → Int32 → Int32 → Int32 → Option Mem) : Nat → Mem → Int32 → Int32 → Int32 → Int32 → Option Mem
  | 0 => fun _ _ _ _ _ => none
  | f + 1 => S_X8_closesHere_15 N rec_2 (L_X8_closesHere_15 N rec_2 f)
set_option maxRecDepth 100000 in
set_option maxHeartbeats 4000000 in
theorem lp_X8_closesHere_15 {N : Nat} {K : KT} {m' : Mem} {rec_2 : Mem → Int32 → Int32 → Int32 → Option Mem} (hK : KOK K cX8_closesHere 9 RX8 wsX8_closesHere 2 0 46) (hR : KRet K none none m') (hrec_2 : ∀ {m : Mem} {x1 : Int32} {x2 : Int32} {x3 : Int32}, rec_2 m x1 x2 x3 = some m' → AW K 0 2 [(0, q_r 70), (1, q_i x1), (2, q_i x2), (3, q_i x3)] [] m) : ∀ (f : Nat) {m : Mem} {x1 : Int32} {x2 : Int32} {x3 : Int32} {x4 : Int32}, L_X8_closesHere_15 N rec_2 f m x1 x2 x3 x4 = some m' → AW K 0 15 [(0, q_r 70), (1, q_i x1), (2, q_i x2), (3, q_i x3), (4, q_i x4)] [] m := by
  intro f
  induction f with
  | zero => intro m x1 x2 x3 x4 hF; cases hF
  | succ f hrec_15 =>
    intro m x1 x2 x3 x4 hF
    have hF : S_X8_closesHere_15 N rec_2 (L_X8_closesHere_15 N rec_2 f) m x1 x2 x3 x4 = some m' := hF
    unfold S_X8_closesHere_15 at hF
    refine aw_iload hK 4 rfl dX8_closesHere_15 ?_
    refine aw_sipush hK (160) rfl dX8_closesHere_17 ?_
    refine aw_iload_n hK 1 rfl dX8_closesHere_20 ?_
    refine aw_imul hK dX8_closesHere_21 ?_
    refine aw_aload_n hK 0 rfl dX8_closesHere_22 ?_
    refine gf_8_5 hK rfl (74) rfl (List.mem_of_getElem? (i := 1) rfl) dX8_closesHere_23 ?_
    refine aw_iload_n hK 1 rfl dX8_closesHere_26 ?_
    obtain ⟨g2, hF⟩ := gd_some hF
    refine aw_iald hK rfl g2 dX8_closesHere_27 ?_
    refine aw_iadd hK dX8_closesHere_28 ?_
    refine aw_icmp_ge hK 219 rfl dX8_closesHere_29 (fun hc => ?_) (fun hc => ?_)
    · have hF := if_t hF hc
      refine aw_goto hK 2 rfl dX8_closesHere_219 ?_
      refine aw_sub [0, 1, 2, 3] (lv' := [(0, q_r 70), (1, q_i x1), (2, q_i x2), (3, q_i x3)]) rfl ?_
      exact hrec_2 hF
    · have hF := if_f hF hc
      refine aw_iconst hK (0) rfl dX8_closesHere_32 ?_
      refine aw_istore hK [(5, q_i (0 : Int32)), (0, q_r 70), (1, q_i x1), (2, q_i x2), (3, q_i x3), (4, q_i x4)] (by decide) rfl dX8_closesHere_33 ?_
      refine aw_sub [1, 2, 3, 4, 5, 0] (lv' := [(0, q_r 70), (1, q_i x1), (2, q_i x2), (3, q_i x3), (4, q_i x4), (5, q_i (0 : Int32))]) rfl ?_
      exact lp_X8_closesHere_35 hK hR hrec_2 hrec_15 _ hF
def S_X8_closesHere_2 (N : Nat) (rec_2 : Mem → Int32 → Int32 → Int32 → Option Mem) (m : Mem) (x1 : Int32) (x2 : Int32) (x3 : Int32) : Option Mem :=
  if x3 = (0 : Int32) then (
    some m
  ) else (
    bnd ((160 : Int32) * x1) fun y1 =>
    L_X8_closesHere_15 N rec_2 N m x1 x2 (0 : Int32) y1
  )
def L_X8_closesHere_2 (N : Nat) : Nat → Mem → Int32 → Int32 → Int32 → Option Mem
  | 0 => fun _ _ _ _ => none
  | f + 1 => S_X8_closesHere_2 N (L_X8_closesHere_2 N f)
set_option maxRecDepth 100000 in
set_option maxHeartbeats 4000000 in
theorem lp_X8_closesHere_2 {N : Nat} {K : KT} {m' : Mem} (hK : KOK K cX8_closesHere 9 RX8 wsX8_closesHere 2 0 46) (hR : KRet K none none m') : ∀ (f : Nat) {m : Mem} {x1 : Int32} {x2 : Int32} {x3 : Int32}, L_X8_closesHere_2 N f m x1 x2 x3 = some m' → AW K 0 2 [(0, q_r 70), (1, q_i x1), (2, q_i x2), (3, q_i x3)] [] m := by
  intro f
  induction f with
  | zero => intro m x1 x2 x3 hF; cases hF
  | succ f hrec_2 =>
    intro m x1 x2 x3 hF
    have hF : S_X8_closesHere_2 N (L_X8_closesHere_2 N f) m x1 x2 x3 = some m' := hF
    unfold S_X8_closesHere_2 at hF
    refine aw_iload_n hK 3 rfl dX8_closesHere_2 ?_
    refine aw_if_eq hK 222 rfl dX8_closesHere_3 (fun hc => ?_) (fun hc => ?_)
    · have hF := if_t hF hc
      obtain rfl := Option.some.inj hF
      exact aw_vret hK hR dX8_closesHere_222
    · have hF := if_f hF hc
      refine aw_iconst hK (0) rfl dX8_closesHere_6 ?_
      refine aw_istore_n hK [(3, q_i (0 : Int32)), (0, q_r 70), (1, q_i x1), (2, q_i x2)] (by decide) rfl dX8_closesHere_7 ?_
      refine aw_sipush hK (160) rfl dX8_closesHere_8 ?_
      refine aw_iload_n hK 2 rfl dX8_closesHere_11 ?_
      refine aw_imul hK dX8_closesHere_12 ?_
      obtain ⟨y1, hy1, hF⟩ := bnd_some hF
      refine aw_nm hy1 ?_
      refine aw_istore hK [(4, q_i y1), (3, q_i (0 : Int32)), (0, q_r 70), (1, q_i x1), (2, q_i x2)] (by decide) rfl dX8_closesHere_13 ?_
      refine aw_sub [2, 3, 4, 1, 0] (lv' := [(0, q_r 70), (1, q_i x1), (2, q_i x2), (3, q_i (0 : Int32)), (4, q_i y1)]) rfl ?_
      exact lp_X8_closesHere_15 hK hR hrec_2 _ hF
def F_X8_closesHere (N : Nat) (m : Mem) (x1 : Int32) (x2 : Int32) : Option Mem :=
  L_X8_closesHere_2 N N m x1 x2 (1 : Int32)
set_option maxRecDepth 100000 in
set_option maxHeartbeats 4000000 in
theorem tr_X8_closesHere {N : Nat} {m m' : Mem} {x1 : Int32} {x2 : Int32} (hF : F_X8_closesHere N m x1 x2 = some m') : Tr yX8_closesHere wsX8_closesHere 2 46 [q_r 70, q_i x1, q_i x2] m none m' := by
  refine tr_of (bytes := cX8_closesHere) (maxL := 9) (ret := none) (by decide) rfl (Nat.le_of_ble_eq_true rfl) (fun K hK hR => ?_)
  have hK : KOK K cX8_closesHere 9 RX8 wsX8_closesHere 2 0 46 := hK
  show AW K 0 0 [(0, q_r 70), (1, q_i x1), (2, q_i x2)] [] m
  unfold F_X8_closesHere at hF
  refine aw_iconst hK (1) rfl dX8_closesHere_0 ?_
  refine aw_istore_n hK [(3, q_i (1 : Int32)), (0, q_r 70), (1, q_i x1), (2, q_i x2)] (by decide) rfl dX8_closesHere_1 ?_
  refine aw_sub [1, 2, 3, 0] (lv' := [(0, q_r 70), (1, q_i x1), (2, q_i x2), (3, q_i (1 : Int32))]) rfl ?_
  exact lp_X8_closesHere_2 hK hR _ hF
def B_X8_goesHere_256 (N : Nat) (rec_39 : Mem → Int32 → Int32 → Int32 → Int32 → Int32 → Option (Int32 × Mem)) (m : Mem) (x1 : Int32) (x2 : Int32) (x3 : Int32) (x4 : Int32) (x5 : Int32) : Option (Int32 × Mem) :=
  bnd (x5 + (1 : Int32)) fun y29 =>
  rec_39 m x1 x2 x3 x4 y29
set_option maxRecDepth 100000 in
set_option maxHeartbeats 4000000 in
theorem bk_X8_goesHere_256 {N : Nat} {K : KT} {m' : Mem} {rec_39 : Mem → Int32 → Int32 → Int32 → Int32 → Int32 → Option (Int32 × Mem)} {r : Int32} (hK : KOK K cX8_goesHere 10 RX8 wsX8_goesHere 2 0 46) (hR : KRet K (some .int) (some r) m') (hrec_39 : ∀ {m : Mem} {x1 : Int32} {x2 : Int32} {x3 : Int32} {x4 : Int32} {x5 : Int32}, rec_39 m x1 x2 x3 x4 x5 = some (r, m') → AW K 0 39 [(0, q_r 70), (1, q_i x1), (2, q_i x2), (3, q_i x3), (4, q_i x4), (5, q_i x5)] [] m) {m : Mem} {x1 : Int32} {x2 : Int32} {x3 : Int32} {x4 : Int32} {x5 : Int32} (hF : B_X8_goesHere_256 N rec_39 m x1 x2 x3 x4 x5 = some (r, m')) : AW K 0 256 [(0, q_r 70), (1, q_i x1), (2, q_i x2), (3, q_i x3), (4, q_i x4), (5, q_i x5)] [] m := by
  unfold B_X8_goesHere_256 at hF
  obtain ⟨y29, hy29, hF⟩ := bnd_some hF
  refine aw_iinc hK (cz := 1) 5 [(5, q_i y29), (0, q_r 70), (1, q_i x1), (2, q_i x2), (3, q_i x3), (4, q_i x4)] (by decide) rfl rfl hy29 rfl dX8_goesHere_256 ?_
  refine aw_goto hK 39 rfl dX8_goesHere_259 ?_
  refine aw_sub [1, 2, 3, 4, 5, 0] (lv' := [(0, q_r 70), (1, q_i x1), (2, q_i x2), (3, q_i x3), (4, q_i x4), (5, q_i y29)]) rfl ?_
  exact hrec_39 hF
def B_X8_goesHere_250 (N : Nat) (rec_39 : Mem → Int32 → Int32 → Int32 → Int32 → Int32 → Option (Int32 × Mem)) (rec_59 : Mem → Int32 → Int32 → Int32 → Int32 → Int32 → Int32 → Option (Int32 × Mem)) (m : Mem) (x1 : Int32) (x2 : Int32) (x3 : Int32) (x4 : Int32) (x5 : Int32) (x6 : Int32) : Option (Int32 × Mem) :=
  bnd (x6 + (1 : Int32)) fun y28 =>
  rec_59 m x1 x2 x3 x4 x5 y28
set_option maxRecDepth 100000 in
set_option maxHeartbeats 4000000 in
theorem bk_X8_goesHere_250 {N : Nat} {K : KT} {m' : Mem} {rec_39 : Mem → Int32 → Int32 → Int32 → Int32 → Int32 → Option (Int32 × Mem)} {rec_59 : Mem → Int32 → Int32 → Int32 → Int32 → Int32 → Int32 → Option (Int32 × Mem)} {r : Int32} (hK : KOK K cX8_goesHere 10 RX8 wsX8_goesHere 2 0 46) (hR : KRet K (some .int) (some r) m') (hrec_39 : ∀ {m : Mem} {x1 : Int32} {x2 : Int32} {x3 : Int32} {x4 : Int32} {x5 : Int32}, rec_39 m x1 x2 x3 x4 x5 = some (r, m') → AW K 0 39 [(0, q_r 70), (1, q_i x1), (2, q_i x2), (3, q_i x3), (4, q_i x4), (5, q_i x5)] [] m) (hrec_59 : ∀ {m : Mem} {x1 : Int32} {x2 : Int32} {x3 : Int32} {x4 : Int32} {x5 : Int32} {x6 : Int32}, rec_59 m x1 x2 x3 x4 x5 x6 = some (r, m') → AW K 0 59 [(0, q_r 70), (1, q_i x1), (2, q_i x2), (3, q_i x3), (4, q_i x4), (5, q_i x5), (6, q_i x6)] [] m) {m : Mem} {x1 : Int32} {x2 : Int32} {x3 : Int32} {x4 : Int32} {x5 : Int32} {x6 : Int32} (hF : B_X8_goesHere_250 N rec_39 rec_59 m x1 x2 x3 x4 x5 x6 = some (r, m')) : AW K 0 250 [(0, q_r 70), (1, q_i x1), (2, q_i x2), (3, q_i x3), (4, q_i x4), (5, q_i x5), (6, q_i x6)] [] m := by
  unfold B_X8_goesHere_250 at hF
  obtain ⟨y28, hy28, hF⟩ := bnd_some hF
  refine aw_iinc hK (cz := 1) 6 [(6, q_i y28), (0, q_r 70), (1, q_i x1), (2, q_i x2), (3, q_i x3), (4, q_i x4), (5, q_i x5)] (by decide) rfl rfl hy28 rfl dX8_goesHere_250 ?_
  refine aw_goto hK 59 rfl dX8_goesHere_253 ?_
  refine aw_sub [1, 2, 3, 4, 5, 6, 0] (lv' := [(0, q_r 70), (1, q_i x1), (2, q_i x2), (3, q_i x3), (4, q_i x4), (5, q_i x5), (6, q_i y28)]) rfl ?_
  exact hrec_59 hF
def B_X8_goesHere_248 (N : Nat) (rec_39 : Mem → Int32 → Int32 → Int32 → Int32 → Int32 → Option (Int32 × Mem)) (rec_59 : Mem → Int32 → Int32 → Int32 → Int32 → Int32 → Int32 → Option (Int32 × Mem)) (m : Mem) (x1 : Int32) (x2 : Int32) (x3 : Int32) (x5 : Int32) (x6 : Int32) (s0 : Int32) : Option (Int32 × Mem) :=
  B_X8_goesHere_250 N rec_39 rec_59 m x1 x2 x3 s0 x5 x6
set_option maxRecDepth 100000 in
set_option maxHeartbeats 4000000 in
theorem bk_X8_goesHere_248 {N : Nat} {K : KT} {m' : Mem} {rec_39 : Mem → Int32 → Int32 → Int32 → Int32 → Int32 → Option (Int32 × Mem)} {rec_59 : Mem → Int32 → Int32 → Int32 → Int32 → Int32 → Int32 → Option (Int32 × Mem)} {r : Int32} (hK : KOK K cX8_goesHere 10 RX8 wsX8_goesHere 2 0 46) (hR : KRet K (some .int) (some r) m') (hrec_39 : ∀ {m : Mem} {x1 : Int32} {x2 : Int32} {x3 : Int32} {x4 : Int32} {x5 : Int32}, rec_39 m x1 x2 x3 x4 x5 = some (r, m') → AW K 0 39 [(0, q_r 70), (1, q_i x1), (2, q_i x2), (3, q_i x3), (4, q_i x4), (5, q_i x5)] [] m) (hrec_59 : ∀ {m : Mem} {x1 : Int32} {x2 : Int32} {x3 : Int32} {x4 : Int32} {x5 : Int32} {x6 : Int32}, rec_59 m x1 x2 x3 x4 x5 x6 = some (r, m') → AW K 0 59 [(0, q_r 70), (1, q_i x1), (2, q_i x2), (3, q_i x3), (4, q_i x4), (5, q_i x5), (6, q_i x6)] [] m) {m : Mem} {x1 : Int32} {x2 : Int32} {x3 : Int32} {x5 : Int32} {x6 : Int32} {s0 : Int32} (hF : B_X8_goesHere_248 N rec_39 rec_59 m x1 x2 x3 x5 x6 s0 = some (r, m')) : AW K 0 248 [(0, q_r 70), (1, q_i x1), (2, q_i x2), (3, q_i x3), (5, q_i x5), (6, q_i x6)] [q_i s0] m := by
  unfold B_X8_goesHere_248 at hF
  refine aw_istore hK [(4, q_i s0), (0, q_r 70), (1, q_i x1), (2, q_i x2), (3, q_i x3), (5, q_i x5), (6, q_i x6)] (by decide) rfl dX8_goesHere_248 ?_
  refine aw_sub [1, 2, 3, 4, 0, 5, 6] (lv' := [(0, q_r 70), (1, q_i x1), (2, q_i x2), (3, q_i x3), (4, q_i s0), (5, q_i x5), (6, q_i x6)]) rfl ?_
  exact bk_X8_goesHere_250 hK hR hrec_39 hrec_59 hF
def B_X8_goesHere_217 (N : Nat) (rec_39 : Mem → Int32 → Int32 → Int32 → Int32 → Int32 → Option (Int32 × Mem)) (rec_59 : Mem → Int32 → Int32 → Int32 → Int32 → Int32 → Int32 → Option (Int32 × Mem)) (m : Mem) (x1 : Int32) (x2 : Int32) (x3 : Int32) (x4 : Int32) (x5 : Int32) (x6 : Int32) (x8 : Int32) (x9 : Int32) (s0 : Int32) (s1 : Int32) : Option (Int32 × Mem) :=
  gd (inb s1 (alen 101)) <|
  bnd (mup m 101 (ix s1) s0) fun m25 =>
  gd (inb x9 (alen 99)) <|
  if x4 ≤ (x8 + (m25 99 (ix x9))) then (
    B_X8_goesHere_248 N rec_39 rec_59 m25 x1 x2 x3 x5 x6 x4
  ) else (
    gd (inb x9 (alen 99)) <|
    B_X8_goesHere_248 N rec_39 rec_59 m25 x1 x2 x3 x5 x6 (x8 + (m25 99 (ix x9)))
  )
set_option maxRecDepth 100000 in
set_option maxHeartbeats 4000000 in
theorem bk_X8_goesHere_217 {N : Nat} {K : KT} {m' : Mem} {rec_39 : Mem → Int32 → Int32 → Int32 → Int32 → Int32 → Option (Int32 × Mem)} {rec_59 : Mem → Int32 → Int32 → Int32 → Int32 → Int32 → Int32 → Option (Int32 × Mem)} {r : Int32} (hK : KOK K cX8_goesHere 10 RX8 wsX8_goesHere 2 0 46) (hR : KRet K (some .int) (some r) m') (hrec_39 : ∀ {m : Mem} {x1 : Int32} {x2 : Int32} {x3 : Int32} {x4 : Int32} {x5 : Int32}, rec_39 m x1 x2 x3 x4 x5 = some (r, m') → AW K 0 39 [(0, q_r 70), (1, q_i x1), (2, q_i x2), (3, q_i x3), (4, q_i x4), (5, q_i x5)] [] m) (hrec_59 : ∀ {m : Mem} {x1 : Int32} {x2 : Int32} {x3 : Int32} {x4 : Int32} {x5 : Int32} {x6 : Int32}, rec_59 m x1 x2 x3 x4 x5 x6 = some (r, m') → AW K 0 59 [(0, q_r 70), (1, q_i x1), (2, q_i x2), (3, q_i x3), (4, q_i x4), (5, q_i x5), (6, q_i x6)] [] m) {m : Mem} {x1 : Int32} {x2 : Int32} {x3 : Int32} {x4 : Int32} {x5 : Int32} {x6 : Int32} {x8 : Int32} {x9 : Int32} {s0 : Int32} {s1 : Int32} (hF : B_X8_goesHere_217 N rec_39 rec_59 m x1 x2 x3 x4 x5 x6 x8 x9 s0 s1 = some (r, m')) : AW K 0 217 [(0, q_r 70), (1, q_i x1), (2, q_i x2), (3, q_i x3), (4, q_i x4), (5, q_i x5), (6, q_i x6), (8, q_i x8), (9, q_i x9)] [q_i s0, q_i s1, q_r 101] m := by
  unfold B_X8_goesHere_217 at hF
  obtain ⟨g24, hF⟩ := gd_some hF
  refine aw_iast hK rfl g24 dX8_goesHere_217 ?_
  obtain ⟨m25, hm25, hF⟩ := bnd_some hF
  refine aw_mm hm25 ?_
  refine aw_iload hK 7 rfl dX8_goesHere_218 ?_
  refine aw_aload_n hK 0 rfl dX8_goesHere_220 ?_
  refine gf_8_36 hK rfl (99) rfl (List.mem_of_getElem? (i := 7) rfl) dX8_goesHere_221 ?_
  refine aw_iload hK 8 rfl dX8_goesHere_224 ?_
  obtain ⟨g26, hF⟩ := gd_some hF
  refine aw_iald hK rfl g26 dX8_goesHere_226 ?_
  refine aw_iadd hK dX8_goesHere_227 ?_
  refine aw_iload hK 4 rfl dX8_goesHere_228 ?_
  refine aw_icmp_ge hK 246 rfl dX8_goesHere_230 (fun hc => ?_) (fun hc => ?_)
  · have hF := if_t hF hc
    refine aw_iload hK 4 rfl dX8_goesHere_246 ?_
    refine aw_sub [0, 1, 2, 3, 5, 6] (lv' := [(0, q_r 70), (1, q_i x1), (2, q_i x2), (3, q_i x3), (5, q_i x5), (6, q_i x6)]) rfl ?_
    exact bk_X8_goesHere_248 hK hR hrec_39 hrec_59 hF
  · have hF := if_f hF hc
    refine aw_iload hK 7 rfl dX8_goesHere_233 ?_
    refine aw_aload_n hK 0 rfl dX8_goesHere_235 ?_
    refine gf_8_36 hK rfl (99) rfl (List.mem_of_getElem? (i := 7) rfl) dX8_goesHere_236 ?_
    refine aw_iload hK 8 rfl dX8_goesHere_239 ?_
    obtain ⟨g27, hF⟩ := gd_some hF
    refine aw_iald hK rfl g27 dX8_goesHere_241 ?_
    refine aw_iadd hK dX8_goesHere_242 ?_
    refine aw_goto hK 248 rfl dX8_goesHere_243 ?_
    refine aw_sub [0, 1, 2, 3, 5, 6] (lv' := [(0, q_r 70), (1, q_i x1), (2, q_i x2), (3, q_i x3), (5, q_i x5), (6, q_i x6)]) rfl ?_
    exact bk_X8_goesHere_248 hK hR hrec_39 hrec_59 hF
def S_X8_goesHere_59 (N : Nat) (rec_39 : Mem → Int32 → Int32 → Int32 → Int32 → Int32 → Option (Int32 × Mem)) (rec_59 : Mem → Int32 → Int32 → Int32 → Int32 → Int32 → Int32 → Option (Int32 × Mem)) (m : Mem) (x1 : Int32) (x2 : Int32) (x3 : Int32) (x4 : Int32) (x5 : Int32) (x6 : Int32) : Option (Int32 × Mem) :=
  if (m 70 2) < x6 then (
    B_X8_goesHere_256 N rec_39 m x1 x2 x3 x4 x5
  ) else (
    cal (F_X8_outOf N m x5 x2) fun r8 m7 =>
    if r8 = x3 then (
      cal (F_X8_behind N m7 x5 x6 x2) fun r11 m10 =>
      if r11 = (-1 : Int32) then (
        B_X8_goesHere_250 N rec_39 rec_59 m10 x1 x2 x3 x4 x5 x6
      ) else (
        gd (inb x5 (alen 75)) <|
        gd (inb (((32 : Int32) * x6) + (m10 75 (ix x5))) (alen 100)) <|
        if (m10 100 (ix (((32 : Int32) * x6) + (m10 75 (ix x5))))) = (2000000000 : Int32) then (
          B_X8_goesHere_250 N rec_39 rec_59 m10 x1 x2 x3 x4 x5 x6
        ) else (
          gd (inb x5 (alen 79)) <|
          gd (inb (((32 : Int32) * r11) + (m10 79 (ix x5))) (alen 99)) <|
          if (m10 99 (ix (((32 : Int32) * r11) + (m10 79 (ix x5))))) = (2000000000 : Int32) then (
            B_X8_goesHere_250 N rec_39 rec_59 m10 x1 x2 x3 x4 x5 x6
          ) else (
            gd (inb x5 (alen 75)) <|
            gd (inb (((32 : Int32) * x6) + (m10 75 (ix x5))) (alen 100)) <|
            gd (inb x5 (alen 78)) <|
            bnd ((m10 100 (ix (((32 : Int32) * x6) + (m10 75 (ix x5))))) + (m10 78 (ix x5))) fun y19 =>
            gd (inb x5 (alen 79)) <|
            bnd (((32 : Int32) * r11) + (m10 79 (ix x5))) fun y21 =>
            gd (inb y21 (alen 101)) <|
            if (m10 101 (ix y21)) ≤ y19 then (
              gd (inb y21 (alen 101)) <|
              B_X8_goesHere_217 N rec_39 rec_59 m10 x1 x2 x3 x4 x5 x6 y19 y21 (m10 101 (ix y21)) y21
            ) else (
              B_X8_goesHere_217 N rec_39 rec_59 m10 x1 x2 x3 x4 x5 x6 y19 y21 y19 y21
            )
          )
        )
      )
    ) else (
      B_X8_goesHere_256 N rec_39 m7 x1 x2 x3 x4 x5
    )
  )
def L_X8_goesHere_59 (N : Nat) (rec_39 : Mem → Int32 → Int32 → Int32 → Int32 → Int32 → Option (Int32 × Mem)) : Nat → Mem → Int32 → Int32 → Int32 → Int32 → Int32 → Int32 → Option (Int32 × Mem)
  | 0 => fun _ _ _ _ _ _ _ => none
  | f + 1 => S_X8_goesHere_59 N rec_39 (L_X8_goesHere_59 N rec_39 f)
set_option maxRecDepth 100000 in
set_option maxHeartbeats 4000000 in
theorem lp_X8_goesHere_59 {N : Nat} {K : KT} {m' : Mem} {rec_39 : Mem → Int32 → Int32 → Int32 → Int32 → Int32 → Option (Int32 × Mem)} {r : Int32} (hK : KOK K cX8_goesHere 10 RX8 wsX8_goesHere 2 0 46) (hR : KRet K (some .int) (some r) m') (hrec_39 : ∀ {m : Mem} {x1 : Int32} {x2 : Int32} {x3 : Int32} {x4 : Int32} {x5 : Int32}, rec_39 m x1 x2 x3 x4 x5 = some (r, m') → AW K 0 39 [(0, q_r 70), (1, q_i x1), (2, q_i x2), (3, q_i x3), (4, q_i x4), (5, q_i x5)] [] m) : ∀ (f : Nat) {m : Mem} {x1 : Int32} {x2 : Int32} {x3 : Int32} {x4 : Int32} {x5 : Int32} {x6 : Int32}, L_X8_goesHere_59 N rec_39 f m x1 x2 x3 x4 x5 x6 = some (r, m') → AW K 0 59 [(0, q_r 70), (1, q_i x1), (2, q_i x2), (3, q_i x3), (4, q_i x4), (5, q_i x5), (6, q_i x6)] [] m := by
  intro f
  induction f with
  | zero => intro m x1 x2 x3 x4 x5 x6 hF; cases hF
  | succ f hrec_59 =>
    intro m x1 x2 x3 x4 x5 x6 hF
    have hF : S_X8_goesHere_59 N rec_39 (L_X8_goesHere_59 N rec_39 f) m x1 x2 x3 x4 x5 x6 = some (r, m') := hF
    unfold S_X8_goesHere_59 at hF
    refine aw_iload hK 6 rfl dX8_goesHere_59 ?_
    refine aw_aload_n hK 0 rfl dX8_goesHere_61 ?_
    refine gf_8_2 hK rfl (List.mem_of_getElem? (i := 4) rfl) dX8_goesHere_62 ?_
    refine aw_icmp_gt hK 256 rfl dX8_goesHere_65 (fun hc => ?_) (fun hc => ?_)
    · have hF := if_t hF hc
      refine aw_sub [0, 1, 2, 3, 4, 5] (lv' := [(0, q_r 70), (1, q_i x1), (2, q_i x2), (3, q_i x3), (4, q_i x4), (5, q_i x5)]) rfl ?_
      exact bk_X8_goesHere_256 hK hR hrec_39 hF
    · have hF := if_f hF hc
      refine aw_aload_n hK 0 rfl dX8_goesHere_68 ?_
      refine aw_iload hK 5 rfl dX8_goesHere_69 ?_
      refine aw_iload_n hK 2 rfl dX8_goesHere_71 ?_
      obtain ⟨r8, m7, h6, hF⟩ := cal_some hF
      refine aw_cv hK 8 (as := [q_i x5, q_i x2]) (tr_X8_outOf h6) gX8_goesHere_X8_outOf rfl rfl rfl (by decide) (na := 2) (by decide +kernel) rfl ⟨by decide, by decide⟩ (Nat.zero_le _) (Nat.le_of_ble_eq_true rfl) dX8_goesHere_72 ?_
      refine aw_iload_n hK 3 rfl dX8_goesHere_75 ?_
      refine aw_icmp_ne hK 256 rfl dX8_goesHere_76 (fun hc => ?_) (fun hc => ?_)
      · have hF := if_f hF hc
        refine aw_sub [0, 1, 2, 3, 4, 5] (lv' := [(0, q_r 70), (1, q_i x1), (2, q_i x2), (3, q_i x3), (4, q_i x4), (5, q_i x5)]) rfl ?_
        exact bk_X8_goesHere_256 hK hR hrec_39 hF
      · have hF := if_t hF hc
        refine aw_aload_n hK 0 rfl dX8_goesHere_79 ?_
        refine aw_iload hK 5 rfl dX8_goesHere_80 ?_
        refine aw_iload hK 6 rfl dX8_goesHere_82 ?_
        refine aw_iload_n hK 2 rfl dX8_goesHere_84 ?_
        obtain ⟨r11, m10, h9, hF⟩ := cal_some hF
        refine aw_cv hK 8 (as := [q_i x5, q_i x6, q_i x2]) (tr_X8_behind h9) gX8_goesHere_X8_behind rfl rfl rfl (by decide) (na := 3) (by decide +kernel) rfl ⟨by decide, by decide⟩ (Nat.zero_le _) (Nat.le_of_ble_eq_true rfl) dX8_goesHere_85 ?_
        refine aw_istore hK [(7, q_i r11), (0, q_r 70), (1, q_i x1), (2, q_i x2), (3, q_i x3), (4, q_i x4), (5, q_i x5), (6, q_i x6)] (by decide) rfl dX8_goesHere_88 ?_
        refine aw_iload hK 0 rfl dX8_goesHere_90 ?_
        refine aw_iconst hK (-1) rfl dX8_goesHere_92 ?_
        refine aw_icmp_eq hK 250 rfl dX8_goesHere_93 (fun hc => ?_) (fun hc => ?_)
        · have hF := if_t hF hc
          refine aw_sub [1, 2, 3, 4, 5, 6, 7] (lv' := [(0, q_r 70), (1, q_i x1), (2, q_i x2), (3, q_i x3), (4, q_i x4), (5, q_i x5), (6, q_i x6)]) rfl ?_
          exact bk_X8_goesHere_250 hK hR hrec_39 hrec_59 hF
        · have hF := if_f hF hc
          refine aw_aload_n hK 1 rfl dX8_goesHere_96 ?_
          refine gf_8_37 hK rfl (100) rfl (List.mem_of_getElem? (i := 5) rfl) dX8_goesHere_97 ?_
          refine aw_bipush hK (32) rfl dX8_goesHere_100 ?_
          refine aw_iload hK 7 rfl dX8_goesHere_102 ?_
          refine aw_imul hK dX8_goesHere_104 ?_
          refine aw_aload_n hK 1 rfl dX8_goesHere_105 ?_
          refine gf_8_6 hK rfl (75) rfl (List.mem_of_getElem? (i := 6) rfl) dX8_goesHere_106 ?_
          refine aw_iload hK 6 rfl dX8_goesHere_109 ?_
          obtain ⟨g12, hF⟩ := gd_some hF
          refine aw_iald hK rfl g12 dX8_goesHere_111 ?_
          refine aw_iadd hK dX8_goesHere_112 ?_
          obtain ⟨g13, hF⟩ := gd_some hF
          refine aw_iald hK rfl g13 dX8_goesHere_113 ?_
          refine aw_ldc_w hK (2000000000) (List.mem_of_getElem? (i := 2) rfl) dX8_goesHere_114 ?_
          refine aw_icmp_eq hK 250 rfl dX8_goesHere_117 (fun hc => ?_) (fun hc => ?_)
          · have hF := if_t hF hc
            refine aw_sub [1, 2, 3, 4, 5, 6, 7] (lv' := [(0, q_r 70), (1, q_i x1), (2, q_i x2), (3, q_i x3), (4, q_i x4), (5, q_i x5), (6, q_i x6)]) rfl ?_
            exact bk_X8_goesHere_250 hK hR hrec_39 hrec_59 hF
          · have hF := if_f hF hc
            refine aw_aload_n hK 1 rfl dX8_goesHere_120 ?_
            refine gf_8_36 hK rfl (99) rfl (List.mem_of_getElem? (i := 7) rfl) dX8_goesHere_121 ?_
            refine aw_bipush hK (32) rfl dX8_goesHere_124 ?_
            refine aw_iload hK 0 rfl dX8_goesHere_126 ?_
            refine aw_imul hK dX8_goesHere_128 ?_
            refine aw_aload_n hK 1 rfl dX8_goesHere_129 ?_
            refine gf_8_10 hK rfl (79) rfl (List.mem_of_getElem? (i := 8) rfl) dX8_goesHere_130 ?_
            refine aw_iload hK 6 rfl dX8_goesHere_133 ?_
            obtain ⟨g14, hF⟩ := gd_some hF
            refine aw_iald hK rfl g14 dX8_goesHere_135 ?_
            refine aw_iadd hK dX8_goesHere_136 ?_
            obtain ⟨g15, hF⟩ := gd_some hF
            refine aw_iald hK rfl g15 dX8_goesHere_137 ?_
            refine aw_ldc_w hK (2000000000) (List.mem_of_getElem? (i := 2) rfl) dX8_goesHere_138 ?_
            refine aw_icmp_eq hK 250 rfl dX8_goesHere_141 (fun hc => ?_) (fun hc => ?_)
            · have hF := if_t hF hc
              refine aw_sub [1, 2, 3, 4, 5, 6, 7] (lv' := [(0, q_r 70), (1, q_i x1), (2, q_i x2), (3, q_i x3), (4, q_i x4), (5, q_i x5), (6, q_i x6)]) rfl ?_
              exact bk_X8_goesHere_250 hK hR hrec_39 hrec_59 hF
            · have hF := if_f hF hc
              refine aw_aload_n hK 1 rfl dX8_goesHere_144 ?_
              refine gf_8_37 hK rfl (100) rfl (List.mem_of_getElem? (i := 5) rfl) dX8_goesHere_145 ?_
              refine aw_bipush hK (32) rfl dX8_goesHere_148 ?_
              refine aw_iload hK 7 rfl dX8_goesHere_150 ?_
              refine aw_imul hK dX8_goesHere_152 ?_
              refine aw_aload_n hK 1 rfl dX8_goesHere_153 ?_
              refine gf_8_6 hK rfl (75) rfl (List.mem_of_getElem? (i := 6) rfl) dX8_goesHere_154 ?_
              refine aw_iload hK 6 rfl dX8_goesHere_157 ?_
              obtain ⟨g16, hF⟩ := gd_some hF
              refine aw_iald hK rfl g16 dX8_goesHere_159 ?_
              refine aw_iadd hK dX8_goesHere_160 ?_
              obtain ⟨g17, hF⟩ := gd_some hF
              refine aw_iald hK rfl g17 dX8_goesHere_161 ?_
              refine aw_aload_n hK 1 rfl dX8_goesHere_162 ?_
              refine gf_8_9 hK rfl (78) rfl (List.mem_of_getElem? (i := 9) rfl) dX8_goesHere_163 ?_
              refine aw_iload hK 6 rfl dX8_goesHere_166 ?_
              obtain ⟨g18, hF⟩ := gd_some hF
              refine aw_iald hK rfl g18 dX8_goesHere_168 ?_
              refine aw_iadd hK dX8_goesHere_169 ?_
              obtain ⟨y19, hy19, hF⟩ := bnd_some hF
              refine aw_nm hy19 ?_
              refine aw_istore hK [(8, q_i y19), (7, q_i r11), (0, q_r 70), (1, q_i x1), (2, q_i x2), (3, q_i x3), (4, q_i x4), (5, q_i x5), (6, q_i x6)] (by decide) rfl dX8_goesHere_170 ?_
              refine aw_bipush hK (32) rfl dX8_goesHere_172 ?_
              refine aw_iload hK 1 rfl dX8_goesHere_174 ?_
              refine aw_imul hK dX8_goesHere_176 ?_
              refine aw_aload_n hK 2 rfl dX8_goesHere_177 ?_
              refine gf_8_10 hK rfl (79) rfl (List.mem_of_getElem? (i := 8) rfl) dX8_goesHere_178 ?_
              refine aw_iload hK 7 rfl dX8_goesHere_181 ?_
              obtain ⟨g20, hF⟩ := gd_some hF
              refine aw_iald hK rfl g20 dX8_goesHere_183 ?_
              refine aw_iadd hK dX8_goesHere_184 ?_
              obtain ⟨y21, hy21, hF⟩ := bnd_some hF
              refine aw_nm hy21 ?_
              refine aw_istore hK [(9, q_i y21), (8, q_i y19), (7, q_i r11), (0, q_r 70), (1, q_i x1), (2, q_i x2), (3, q_i x3), (4, q_i x4), (5, q_i x5), (6, q_i x6)] (by decide) rfl dX8_goesHere_185 ?_
              refine aw_aload_n hK 3 rfl dX8_goesHere_187 ?_
              refine gf_8_38 hK rfl (101) rfl (List.mem_of_getElem? (i := 1) rfl) dX8_goesHere_188 ?_
              refine aw_iload hK 0 rfl dX8_goesHere_191 ?_
              refine aw_iload hK 1 rfl dX8_goesHere_193 ?_
              refine aw_aload_n hK 3 rfl dX8_goesHere_195 ?_
              refine gf_8_38 hK rfl (101) rfl (List.mem_of_getElem? (i := 1) rfl) dX8_goesHere_196 ?_
              refine aw_iload hK 0 rfl dX8_goesHere_199 ?_
              obtain ⟨g22, hF⟩ := gd_some hF
              refine aw_iald hK rfl g22 dX8_goesHere_201 ?_
              refine aw_icmp_ge hK 210 rfl dX8_goesHere_202 (fun hc => ?_) (fun hc => ?_)
              · have hF := if_t hF hc
                refine aw_aload_n hK 3 rfl dX8_goesHere_210 ?_
                refine gf_8_38 hK rfl (101) rfl (List.mem_of_getElem? (i := 1) rfl) dX8_goesHere_211 ?_
                refine aw_iload hK 0 rfl dX8_goesHere_214 ?_
                obtain ⟨g23, hF⟩ := gd_some hF
                refine aw_iald hK rfl g23 dX8_goesHere_216 ?_
                refine aw_sub [3, 4, 5, 6, 7, 8, 9, 1, 0] (lv' := [(0, q_r 70), (1, q_i x1), (2, q_i x2), (3, q_i x3), (4, q_i x4), (5, q_i x5), (6, q_i x6), (8, q_i y19), (9, q_i y21)]) rfl ?_
                exact bk_X8_goesHere_217 hK hR hrec_39 hrec_59 hF
              · have hF := if_f hF hc
                refine aw_iload hK 1 rfl dX8_goesHere_205 ?_
                refine aw_goto hK 217 rfl dX8_goesHere_207 ?_
                refine aw_sub [3, 4, 5, 6, 7, 8, 9, 1, 0] (lv' := [(0, q_r 70), (1, q_i x1), (2, q_i x2), (3, q_i x3), (4, q_i x4), (5, q_i x5), (6, q_i x6), (8, q_i y19), (9, q_i y21)]) rfl ?_
                exact bk_X8_goesHere_217 hK hR hrec_39 hrec_59 hF
def S_X8_goesHere_39 (N : Nat) (rec_39 : Mem → Int32 → Int32 → Int32 → Int32 → Int32 → Option (Int32 × Mem)) (m : Mem) (x1 : Int32) (x2 : Int32) (x3 : Int32) (x4 : Int32) (x5 : Int32) : Option (Int32 × Mem) :=
  gd (inb x1 (alen 74)) <|
  if (((160 : Int32) * x1) + (m 74 (ix x1))) ≤ x5 then (
    some (x4, m)
  ) else (
    L_X8_goesHere_59 N rec_39 N m x1 x2 x3 x4 x5 (0 : Int32)
  )
def L_X8_goesHere_39 (N : Nat) : Nat → Mem → Int32 → Int32 → Int32 → Int32 → Int32 → Option (Int32 × Mem)
  | 0 => fun _ _ _ _ _ _ => none
  | f + 1 => S_X8_goesHere_39 N (L_X8_goesHere_39 N f)
set_option maxRecDepth 100000 in
set_option maxHeartbeats 4000000 in
theorem lp_X8_goesHere_39 {N : Nat} {K : KT} {m' : Mem} {r : Int32} (hK : KOK K cX8_goesHere 10 RX8 wsX8_goesHere 2 0 46) (hR : KRet K (some .int) (some r) m') : ∀ (f : Nat) {m : Mem} {x1 : Int32} {x2 : Int32} {x3 : Int32} {x4 : Int32} {x5 : Int32}, L_X8_goesHere_39 N f m x1 x2 x3 x4 x5 = some (r, m') → AW K 0 39 [(0, q_r 70), (1, q_i x1), (2, q_i x2), (3, q_i x3), (4, q_i x4), (5, q_i x5)] [] m := by
  intro f
  induction f with
  | zero => intro m x1 x2 x3 x4 x5 hF; cases hF
  | succ f hrec_39 =>
    intro m x1 x2 x3 x4 x5 hF
    have hF : S_X8_goesHere_39 N (L_X8_goesHere_39 N f) m x1 x2 x3 x4 x5 = some (r, m') := hF
    unfold S_X8_goesHere_39 at hF
    refine aw_iload hK 5 rfl dX8_goesHere_39 ?_
    refine aw_sipush hK (160) rfl dX8_goesHere_41 ?_
    refine aw_iload_n hK 1 rfl dX8_goesHere_44 ?_
    refine aw_imul hK dX8_goesHere_45 ?_
    refine aw_aload_n hK 0 rfl dX8_goesHere_46 ?_
    refine gf_8_5 hK rfl (74) rfl (List.mem_of_getElem? (i := 3) rfl) dX8_goesHere_47 ?_
    refine aw_iload_n hK 1 rfl dX8_goesHere_50 ?_
    obtain ⟨g5, hF⟩ := gd_some hF
    refine aw_iald hK rfl g5 dX8_goesHere_51 ?_
    refine aw_iadd hK dX8_goesHere_52 ?_
    refine aw_icmp_ge hK 262 rfl dX8_goesHere_53 (fun hc => ?_) (fun hc => ?_)
    · have hF := if_t hF hc
      refine aw_iload hK 4 rfl dX8_goesHere_262 ?_
      obtain ⟨rfl, rfl⟩ := so_inj hF
      exact aw_iret hK hR rfl dX8_goesHere_264
    · have hF := if_f hF hc
      refine aw_iconst hK (0) rfl dX8_goesHere_56 ?_
      refine aw_istore hK [(6, q_i (0 : Int32)), (0, q_r 70), (1, q_i x1), (2, q_i x2), (3, q_i x3), (4, q_i x4), (5, q_i x5)] (by decide) rfl dX8_goesHere_57 ?_
      refine aw_sub [1, 2, 3, 4, 5, 6, 0] (lv' := [(0, q_r 70), (1, q_i x1), (2, q_i x2), (3, q_i x3), (4, q_i x4), (5, q_i x5), (6, q_i (0 : Int32))]) rfl ?_
      exact lp_X8_goesHere_59 hK hR hrec_39 _ hF
def S_X8_goesHere_3 (N : Nat) (rec_3 : Mem → Int32 → Int32 → Int32 → Int32 → Option (Int32 × Mem)) (m : Mem) (x1 : Int32) (x2 : Int32) (x3 : Int32) (x4 : Int32) : Option (Int32 × Mem) :=
  if (288 : Int32) ≤ x4 then (
    bnd ((160 : Int32) * x1) fun y1 =>
    L_X8_goesHere_39 N N m x1 x2 x3 (2000000000 : Int32) y1
  ) else (
    gd (inb x4 (alen 101)) <|
    bnd (mup m 101 (ix x4) (2000000000 : Int32)) fun m3 =>
    bnd (x4 + (1 : Int32)) fun y4 =>
    rec_3 m3 x1 x2 x3 y4
  )
def L_X8_goesHere_3 (N : Nat) : Nat → Mem → Int32 → Int32 → Int32 → Int32 → Option (Int32 × Mem)
  | 0 => fun _ _ _ _ _ => none
  | f + 1 => S_X8_goesHere_3 N (L_X8_goesHere_3 N f)
set_option maxRecDepth 100000 in
set_option maxHeartbeats 4000000 in
theorem lp_X8_goesHere_3 {N : Nat} {K : KT} {m' : Mem} {r : Int32} (hK : KOK K cX8_goesHere 10 RX8 wsX8_goesHere 2 0 46) (hR : KRet K (some .int) (some r) m') : ∀ (f : Nat) {m : Mem} {x1 : Int32} {x2 : Int32} {x3 : Int32} {x4 : Int32}, L_X8_goesHere_3 N f m x1 x2 x3 x4 = some (r, m') → AW K 0 3 [(0, q_r 70), (1, q_i x1), (2, q_i x2), (3, q_i x3), (4, q_i x4)] [] m := by
  intro f
  induction f with
  | zero => intro m x1 x2 x3 x4 hF; cases hF
  | succ f hrec_3 =>
    intro m x1 x2 x3 x4 hF
    have hF : S_X8_goesHere_3 N (L_X8_goesHere_3 N f) m x1 x2 x3 x4 = some (r, m') := hF
    unfold S_X8_goesHere_3 at hF
    refine aw_iload hK 4 rfl dX8_goesHere_3 ?_
    refine aw_sipush hK (288) rfl dX8_goesHere_5 ?_
    refine aw_icmp_ge hK 27 rfl dX8_goesHere_8 (fun hc => ?_) (fun hc => ?_)
    · have hF := if_t hF hc
      refine aw_ldc_w hK (2000000000) (List.mem_of_getElem? (i := 2) rfl) dX8_goesHere_27 ?_
      refine aw_istore hK [(4, q_i (2000000000 : Int32)), (0, q_r 70), (1, q_i x1), (2, q_i x2), (3, q_i x3)] (by decide) rfl dX8_goesHere_30 ?_
      refine aw_sipush hK (160) rfl dX8_goesHere_32 ?_
      refine aw_iload_n hK 2 rfl dX8_goesHere_35 ?_
      refine aw_imul hK dX8_goesHere_36 ?_
      obtain ⟨y1, hy1, hF⟩ := bnd_some hF
      refine aw_nm hy1 ?_
      refine aw_istore hK [(5, q_i y1), (4, q_i (2000000000 : Int32)), (0, q_r 70), (1, q_i x1), (2, q_i x2), (3, q_i x3)] (by decide) rfl dX8_goesHere_37 ?_
      refine aw_sub [2, 3, 4, 5, 1, 0] (lv' := [(0, q_r 70), (1, q_i x1), (2, q_i x2), (3, q_i x3), (4, q_i (2000000000 : Int32)), (5, q_i y1)]) rfl ?_
      exact lp_X8_goesHere_39 hK hR _ hF
    · have hF := if_f hF hc
      refine aw_aload_n hK 0 rfl dX8_goesHere_11 ?_
      refine gf_8_38 hK rfl (101) rfl (List.mem_of_getElem? (i := 1) rfl) dX8_goesHere_12 ?_
      refine aw_iload hK 4 rfl dX8_goesHere_15 ?_
      refine aw_ldc_w hK (2000000000) (List.mem_of_getElem? (i := 2) rfl) dX8_goesHere_17 ?_
      obtain ⟨g2, hF⟩ := gd_some hF
      refine aw_iast hK rfl g2 dX8_goesHere_20 ?_
      obtain ⟨m3, hm3, hF⟩ := bnd_some hF
      refine aw_mm hm3 ?_
      obtain ⟨y4, hy4, hF⟩ := bnd_some hF
      refine aw_iinc hK (cz := 1) 4 [(4, q_i y4), (0, q_r 70), (1, q_i x1), (2, q_i x2), (3, q_i x3)] (by decide) rfl rfl hy4 rfl dX8_goesHere_21 ?_
      refine aw_goto hK 3 rfl dX8_goesHere_24 ?_
      refine aw_sub [1, 2, 3, 4, 0] (lv' := [(0, q_r 70), (1, q_i x1), (2, q_i x2), (3, q_i x3), (4, q_i y4)]) rfl ?_
      exact hrec_3 hF
def F_X8_goesHere (N : Nat) (m : Mem) (x1 : Int32) (x2 : Int32) (x3 : Int32) : Option (Int32 × Mem) :=
  L_X8_goesHere_3 N N m x1 x2 x3 (0 : Int32)
set_option maxRecDepth 100000 in
set_option maxHeartbeats 4000000 in
theorem tr_X8_goesHere {N : Nat} {m m' : Mem} {r : Int32} {x1 : Int32} {x2 : Int32} {x3 : Int32} (hF : F_X8_goesHere N m x1 x2 x3 = some (r, m')) : Tr yX8_goesHere wsX8_goesHere 2 46 [q_r 70, q_i x1, q_i x2, q_i x3] m (some r) m' := by
  refine tr_of (bytes := cX8_goesHere) (maxL := 10) (ret := (some .int)) (by decide) rfl (Nat.le_of_ble_eq_true rfl) (fun K hK hR => ?_)
  have hK : KOK K cX8_goesHere 10 RX8 wsX8_goesHere 2 0 46 := hK
  show AW K 0 0 [(0, q_r 70), (1, q_i x1), (2, q_i x2), (3, q_i x3)] [] m
  unfold F_X8_goesHere at hF
  refine aw_iconst hK (0) rfl dX8_goesHere_0 ?_
  refine aw_istore hK [(4, q_i (0 : Int32)), (0, q_r 70), (1, q_i x1), (2, q_i x2), (3, q_i x3)] (by decide) rfl dX8_goesHere_1 ?_
  refine aw_sub [1, 2, 3, 4, 0] (lv' := [(0, q_r 70), (1, q_i x1), (2, q_i x2), (3, q_i x3), (4, q_i (0 : Int32))]) rfl ?_
  exact lp_X8_goesHere_3 hK hR _ hF
def B_X8_begins__42 (N : Nat) (rec_2 : Mem → Int32 → Int32 → Option Mem) (m : Mem) (x1 : Int32) (x2 : Int32) (s0 : Int32) (s1 : Int32) : Option Mem :=
  gd (inb s1 (alen 100)) <|
  bnd (mup m 100 (ix s1) s0) fun m2 =>
  bnd (x2 + (1 : Int32)) fun y3 =>
  rec_2 m2 x1 y3
set_option maxRecDepth 100000 in
set_option maxHeartbeats 4000000 in
theorem bk_X8_begins__42 {N : Nat} {K : KT} {m' : Mem} {rec_2 : Mem → Int32 → Int32 → Option Mem} (hK : KOK K cX8_begins_ 3 RX8 wsX8_begins_ 0 0 0) (hR : KRet K none none m') (hrec_2 : ∀ {m : Mem} {x1 : Int32} {x2 : Int32}, rec_2 m x1 x2 = some m' → AW K 0 2 [(0, q_r 70), (1, q_i x1), (2, q_i x2)] [] m) {m : Mem} {x1 : Int32} {x2 : Int32} {s0 : Int32} {s1 : Int32} (hF : B_X8_begins__42 N rec_2 m x1 x2 s0 s1 = some m') : AW K 0 42 [(0, q_r 70), (1, q_i x1), (2, q_i x2)] [q_i s0, q_i s1, q_r 100] m := by
  unfold B_X8_begins__42 at hF
  obtain ⟨g1, hF⟩ := gd_some hF
  refine aw_iast hK rfl g1 dX8_begins__42 ?_
  obtain ⟨m2, hm2, hF⟩ := bnd_some hF
  refine aw_mm hm2 ?_
  obtain ⟨y3, hy3, hF⟩ := bnd_some hF
  refine aw_iinc hK (cz := 1) 2 [(2, q_i y3), (0, q_r 70), (1, q_i x1)] (by decide) rfl rfl hy3 rfl dX8_begins__43 ?_
  refine aw_goto hK 2 rfl dX8_begins__46 ?_
  refine aw_sub [1, 2, 0] (lv' := [(0, q_r 70), (1, q_i x1), (2, q_i y3)]) rfl ?_
  exact hrec_2 hF
def B_X8_begins__26 (N : Nat) (rec_2 : Mem → Int32 → Int32 → Option Mem) (m : Mem) (x1 : Int32) (x2 : Int32) (s0 : Int32) : Option Mem :=
  if x1 = (0 : Int32) then (
    gd (inb x2 (alen 101)) <|
    B_X8_begins__42 N rec_2 m x1 x2 (m 101 (ix x2)) s0
  ) else (
    B_X8_begins__42 N rec_2 m x1 x2 (2000000000 : Int32) s0
  )
set_option maxRecDepth 100000 in
set_option maxHeartbeats 4000000 in
theorem bk_X8_begins__26 {N : Nat} {K : KT} {m' : Mem} {rec_2 : Mem → Int32 → Int32 → Option Mem} (hK : KOK K cX8_begins_ 3 RX8 wsX8_begins_ 0 0 0) (hR : KRet K none none m') (hrec_2 : ∀ {m : Mem} {x1 : Int32} {x2 : Int32}, rec_2 m x1 x2 = some m' → AW K 0 2 [(0, q_r 70), (1, q_i x1), (2, q_i x2)] [] m) {m : Mem} {x1 : Int32} {x2 : Int32} {s0 : Int32} (hF : B_X8_begins__26 N rec_2 m x1 x2 s0 = some m') : AW K 0 26 [(0, q_r 70), (1, q_i x1), (2, q_i x2)] [q_i s0, q_r 100] m := by
  unfold B_X8_begins__26 at hF
  refine aw_iload_n hK 1 rfl dX8_begins__26 ?_
  refine aw_if_eq hK 36 rfl dX8_begins__27 (fun hc => ?_) (fun hc => ?_)
  · have hF := if_t hF hc
    refine aw_aload_n hK 0 rfl dX8_begins__36 ?_
    refine gf_8_38 hK rfl (101) rfl (List.mem_of_getElem? (i := 3) rfl) dX8_begins__37 ?_
    refine aw_iload_n hK 2 rfl dX8_begins__40 ?_
    obtain ⟨g4, hF⟩ := gd_some hF
    refine aw_iald hK rfl g4 dX8_begins__41 ?_
    refine aw_sub [0, 1, 2] (lv' := [(0, q_r 70), (1, q_i x1), (2, q_i x2)]) rfl ?_
    exact bk_X8_begins__42 hK hR hrec_2 hF
  · have hF := if_f hF hc
    refine aw_ldc_w hK (2000000000) (List.mem_of_getElem? (i := 2) rfl) dX8_begins__30 ?_
    refine aw_goto hK 42 rfl dX8_begins__33 ?_
    refine aw_sub [0, 1, 2] (lv' := [(0, q_r 70), (1, q_i x1), (2, q_i x2)]) rfl ?_
    exact bk_X8_begins__42 hK hR hrec_2 hF
def S_X8_begins__2 (N : Nat) (rec_2 : Mem → Int32 → Int32 → Option Mem) (m : Mem) (x1 : Int32) (x2 : Int32) : Option Mem :=
  if (288 : Int32) ≤ x2 then (
    some m
  ) else (
    if x1 = (0 : Int32) then (
      B_X8_begins__26 N rec_2 m x1 x2 x2
    ) else (
      if x2 = (0 : Int32) then (
        B_X8_begins__42 N rec_2 m x1 x2 (0 : Int32) x2
      ) else (
        B_X8_begins__26 N rec_2 m x1 x2 x2
      )
    )
  )
def L_X8_begins__2 (N : Nat) : Nat → Mem → Int32 → Int32 → Option Mem
  | 0 => fun _ _ _ => none
  | f + 1 => S_X8_begins__2 N (L_X8_begins__2 N f)
set_option maxRecDepth 100000 in
set_option maxHeartbeats 4000000 in
theorem lp_X8_begins__2 {N : Nat} {K : KT} {m' : Mem} (hK : KOK K cX8_begins_ 3 RX8 wsX8_begins_ 0 0 0) (hR : KRet K none none m') : ∀ (f : Nat) {m : Mem} {x1 : Int32} {x2 : Int32}, L_X8_begins__2 N f m x1 x2 = some m' → AW K 0 2 [(0, q_r 70), (1, q_i x1), (2, q_i x2)] [] m := by
  intro f
  induction f with
  | zero => intro m x1 x2 hF; cases hF
  | succ f hrec_2 =>
    intro m x1 x2 hF
    have hF : S_X8_begins__2 N (L_X8_begins__2 N f) m x1 x2 = some m' := hF
    unfold S_X8_begins__2 at hF
    refine aw_iload_n hK 2 rfl dX8_begins__2 ?_
    refine aw_sipush hK (288) rfl dX8_begins__3 ?_
    refine aw_icmp_ge hK 49 rfl dX8_begins__6 (fun hc => ?_) (fun hc => ?_)
    · have hF := if_t hF hc
      obtain rfl := Option.some.inj hF
      exact aw_vret hK hR dX8_begins__49
    · have hF := if_f hF hc
      refine aw_aload_n hK 0 rfl dX8_begins__9 ?_
      refine gf_8_37 hK rfl (100) rfl (List.mem_of_getElem? (i := 1) rfl) dX8_begins__10 ?_
      refine aw_iload_n hK 2 rfl dX8_begins__13 ?_
      refine aw_iload_n hK 1 rfl dX8_begins__14 ?_
      refine aw_if_eq hK 26 rfl dX8_begins__15 (fun hc => ?_) (fun hc => ?_)
      · have hF := if_t hF hc
        refine aw_sub [0, 1, 2] (lv' := [(0, q_r 70), (1, q_i x1), (2, q_i x2)]) rfl ?_
        exact bk_X8_begins__26 hK hR hrec_2 hF
      · have hF := if_f hF hc
        refine aw_iload_n hK 2 rfl dX8_begins__18 ?_
        refine aw_if_ne hK 26 rfl dX8_begins__19 (fun hc => ?_) (fun hc => ?_)
        · have hF := if_f hF hc
          refine aw_sub [0, 1, 2] (lv' := [(0, q_r 70), (1, q_i x1), (2, q_i x2)]) rfl ?_
          exact bk_X8_begins__26 hK hR hrec_2 hF
        · have hF := if_t hF hc
          refine aw_iconst hK (0) rfl dX8_begins__22 ?_
          refine aw_goto hK 42 rfl dX8_begins__23 ?_
          refine aw_sub [0, 1, 2] (lv' := [(0, q_r 70), (1, q_i x1), (2, q_i x2)]) rfl ?_
          exact bk_X8_begins__42 hK hR hrec_2 hF
def F_X8_begins_ (N : Nat) (m : Mem) (x1 : Int32) : Option Mem :=
  L_X8_begins__2 N N m x1 (0 : Int32)
set_option maxRecDepth 100000 in
set_option maxHeartbeats 4000000 in
theorem tr_X8_begins_ {N : Nat} {m m' : Mem} {x1 : Int32} (hF : F_X8_begins_ N m x1 = some m') : Tr yX8_begins_ wsX8_begins_ 0 0 [q_r 70, q_i x1] m none m' := by
  refine tr_of (bytes := cX8_begins_) (maxL := 3) (ret := none) (by decide) rfl (Nat.le_of_ble_eq_true rfl) (fun K hK hR => ?_)
  have hK : KOK K cX8_begins_ 3 RX8 wsX8_begins_ 0 0 0 := hK
  show AW K 0 0 [(0, q_r 70), (1, q_i x1)] [] m
  unfold F_X8_begins_ at hF
  refine aw_iconst hK (0) rfl dX8_begins__0 ?_
  refine aw_istore_n hK [(2, q_i (0 : Int32)), (0, q_r 70), (1, q_i x1)] (by decide) rfl dX8_begins__1 ?_
  refine aw_sub [1, 2, 0] (lv' := [(0, q_r 70), (1, q_i x1), (2, q_i (0 : Int32))]) rfl ?_
  exact lp_X8_begins__2 hK hR _ hF
def B_X8_isDoneFor_54 (N : Nat) (rec_5 : Mem → Int32 → Int32 → Int32 → Int32 → Option (Int32 × Mem)) (m : Mem) (x1 : Int32) (x2 : Int32) (x4 : Int32) (s0 : Int32) : Option (Int32 × Mem) :=
  bnd (x4 + (1 : Int32)) fun y7 =>
  rec_5 m x1 x2 s0 y7
set_option maxRecDepth 100000 in
set_option maxHeartbeats 4000000 in
theorem bk_X8_isDoneFor_54 {N : Nat} {K : KT} {m' : Mem} {rec_5 : Mem → Int32 → Int32 → Int32 → Int32 → Option (Int32 × Mem)} {r : Int32} (hK : KOK K cX8_isDoneFor 5 RX8 wsX8_isDoneFor 1 0 22) (hR : KRet K (some .boolean) (some r) m') (hrec_5 : ∀ {m : Mem} {x1 : Int32} {x2 : Int32} {x3 : Int32} {x4 : Int32}, rec_5 m x1 x2 x3 x4 = some (r, m') → AW K 0 5 [(0, q_r 70), (1, q_i x1), (2, q_i x2), (3, q_i x3), (4, q_i x4)] [] m) {m : Mem} {x1 : Int32} {x2 : Int32} {x4 : Int32} {s0 : Int32} (hF : B_X8_isDoneFor_54 N rec_5 m x1 x2 x4 s0 = some (r, m')) : AW K 0 54 [(0, q_r 70), (1, q_i x1), (2, q_i x2), (4, q_i x4)] [q_i s0] m := by
  unfold B_X8_isDoneFor_54 at hF
  refine aw_istore_n hK [(3, q_i s0), (0, q_r 70), (1, q_i x1), (2, q_i x2), (4, q_i x4)] (by decide) rfl dX8_isDoneFor_54 ?_
  obtain ⟨y7, hy7, hF⟩ := bnd_some hF
  refine aw_iinc hK (cz := 1) 4 [(4, q_i y7), (3, q_i s0), (0, q_r 70), (1, q_i x1), (2, q_i x2)] (by decide) rfl rfl hy7 rfl dX8_isDoneFor_55 ?_
  refine aw_goto hK 5 rfl dX8_isDoneFor_58 ?_
  refine aw_sub [2, 3, 4, 1, 0] (lv' := [(0, q_r 70), (1, q_i x1), (2, q_i x2), (3, q_i s0), (4, q_i y7)]) rfl ?_
  exact hrec_5 hF
def B_X8_isDoneFor_53 (N : Nat) (rec_5 : Mem → Int32 → Int32 → Int32 → Int32 → Option (Int32 × Mem)) (m : Mem) (x1 : Int32) (x2 : Int32) (x4 : Int32) : Option (Int32 × Mem) :=
  B_X8_isDoneFor_54 N rec_5 m x1 x2 x4 (0 : Int32)
set_option maxRecDepth 100000 in
set_option maxHeartbeats 4000000 in
theorem bk_X8_isDoneFor_53 {N : Nat} {K : KT} {m' : Mem} {rec_5 : Mem → Int32 → Int32 → Int32 → Int32 → Option (Int32 × Mem)} {r : Int32} (hK : KOK K cX8_isDoneFor 5 RX8 wsX8_isDoneFor 1 0 22) (hR : KRet K (some .boolean) (some r) m') (hrec_5 : ∀ {m : Mem} {x1 : Int32} {x2 : Int32} {x3 : Int32} {x4 : Int32}, rec_5 m x1 x2 x3 x4 = some (r, m') → AW K 0 5 [(0, q_r 70), (1, q_i x1), (2, q_i x2), (3, q_i x3), (4, q_i x4)] [] m) {m : Mem} {x1 : Int32} {x2 : Int32} {x4 : Int32} (hF : B_X8_isDoneFor_53 N rec_5 m x1 x2 x4 = some (r, m')) : AW K 0 53 [(0, q_r 70), (1, q_i x1), (2, q_i x2), (4, q_i x4)] [] m := by
  unfold B_X8_isDoneFor_53 at hF
  refine aw_iconst hK (0) rfl dX8_isDoneFor_53 ?_
  refine aw_sub [0, 1, 2, 3] (lv' := [(0, q_r 70), (1, q_i x1), (2, q_i x2), (4, q_i x4)]) rfl ?_
  exact bk_X8_isDoneFor_54 hK hR hrec_5 hF
def B_X8_isDoneFor_49 (N : Nat) (rec_5 : Mem → Int32 → Int32 → Int32 → Int32 → Option (Int32 × Mem)) (m : Mem) (x1 : Int32) (x2 : Int32) (x4 : Int32) : Option (Int32 × Mem) :=
  B_X8_isDoneFor_54 N rec_5 m x1 x2 x4 (1 : Int32)
set_option maxRecDepth 100000 in
set_option maxHeartbeats 4000000 in
theorem bk_X8_isDoneFor_49 {N : Nat} {K : KT} {m' : Mem} {rec_5 : Mem → Int32 → Int32 → Int32 → Int32 → Option (Int32 × Mem)} {r : Int32} (hK : KOK K cX8_isDoneFor 5 RX8 wsX8_isDoneFor 1 0 22) (hR : KRet K (some .boolean) (some r) m') (hrec_5 : ∀ {m : Mem} {x1 : Int32} {x2 : Int32} {x3 : Int32} {x4 : Int32}, rec_5 m x1 x2 x3 x4 = some (r, m') → AW K 0 5 [(0, q_r 70), (1, q_i x1), (2, q_i x2), (3, q_i x3), (4, q_i x4)] [] m) {m : Mem} {x1 : Int32} {x2 : Int32} {x4 : Int32} (hF : B_X8_isDoneFor_49 N rec_5 m x1 x2 x4 = some (r, m')) : AW K 0 49 [(0, q_r 70), (1, q_i x1), (2, q_i x2), (4, q_i x4)] [] m := by
  unfold B_X8_isDoneFor_49 at hF
  refine aw_iconst hK (1) rfl dX8_isDoneFor_49 ?_
  refine aw_goto hK 54 rfl dX8_isDoneFor_50 ?_
  refine aw_sub [0, 1, 2, 3] (lv' := [(0, q_r 70), (1, q_i x1), (2, q_i x2), (4, q_i x4)]) rfl ?_
  exact bk_X8_isDoneFor_54 hK hR hrec_5 hF
def S_X8_isDoneFor_5 (N : Nat) (rec_5 : Mem → Int32 → Int32 → Int32 → Int32 → Option (Int32 × Mem)) (m : Mem) (x1 : Int32) (x2 : Int32) (x3 : Int32) (x4 : Int32) : Option (Int32 × Mem) :=
  gd (inb x1 (alen 72)) <|
  if (m 72 (ix x1)) ≤ x4 then (
    gd (isb x3) <|
    some (x3, m)
  ) else (
    if x3 = (0 : Int32) then (
      cal (F_X8_isEndOf N m x1 x4) fun r5 m4 =>
      if r5 = (0 : Int32) then (
        B_X8_isDoneFor_53 N rec_5 m4 x1 x2 x4
      ) else (
        gd (inb (((32 : Int32) * (m4 70 2)) + x4) (alen 100)) <|
        if (m4 100 (ix (((32 : Int32) * (m4 70 2)) + x4))) = x2 then (
          B_X8_isDoneFor_49 N rec_5 m4 x1 x2 x4
        ) else (
          B_X8_isDoneFor_53 N rec_5 m4 x1 x2 x4
        )
      )
    ) else (
      B_X8_isDoneFor_49 N rec_5 m x1 x2 x4
    )
  )
def L_X8_isDoneFor_5 (N : Nat) : Nat → Mem → Int32 → Int32 → Int32 → Int32 → Option (Int32 × Mem)
  | 0 => fun _ _ _ _ _ => none
  | f + 1 => S_X8_isDoneFor_5 N (L_X8_isDoneFor_5 N f)
set_option maxRecDepth 100000 in
set_option maxHeartbeats 4000000 in
theorem lp_X8_isDoneFor_5 {N : Nat} {K : KT} {m' : Mem} {r : Int32} (hK : KOK K cX8_isDoneFor 5 RX8 wsX8_isDoneFor 1 0 22) (hR : KRet K (some .boolean) (some r) m') : ∀ (f : Nat) {m : Mem} {x1 : Int32} {x2 : Int32} {x3 : Int32} {x4 : Int32}, L_X8_isDoneFor_5 N f m x1 x2 x3 x4 = some (r, m') → AW K 0 5 [(0, q_r 70), (1, q_i x1), (2, q_i x2), (3, q_i x3), (4, q_i x4)] [] m := by
  intro f
  induction f with
  | zero => intro m x1 x2 x3 x4 hF; cases hF
  | succ f hrec_5 =>
    intro m x1 x2 x3 x4 hF
    have hF : S_X8_isDoneFor_5 N (L_X8_isDoneFor_5 N f) m x1 x2 x3 x4 = some (r, m') := hF
    unfold S_X8_isDoneFor_5 at hF
    refine aw_iload hK 4 rfl dX8_isDoneFor_5 ?_
    refine aw_aload_n hK 0 rfl dX8_isDoneFor_7 ?_
    refine gf_8_3 hK rfl (72) rfl (List.mem_of_getElem? (i := 1) rfl) dX8_isDoneFor_8 ?_
    refine aw_iload_n hK 1 rfl dX8_isDoneFor_11 ?_
    obtain ⟨g1, hF⟩ := gd_some hF
    refine aw_iald hK rfl g1 dX8_isDoneFor_12 ?_
    refine aw_icmp_ge hK 61 rfl dX8_isDoneFor_13 (fun hc => ?_) (fun hc => ?_)
    · have hF := if_t hF hc
      refine aw_iload_n hK 3 rfl dX8_isDoneFor_61 ?_
      obtain ⟨g2, hF⟩ := gd_some hF
      obtain ⟨rfl, rfl⟩ := so_inj hF
      exact aw_iret hK hR (isb_narrow g2) dX8_isDoneFor_62
    · have hF := if_f hF hc
      refine aw_iload_n hK 3 rfl dX8_isDoneFor_16 ?_
      refine aw_if_ne hK 49 rfl dX8_isDoneFor_17 (fun hc => ?_) (fun hc => ?_)
      · have hF := if_f hF hc
        refine aw_sub [0, 1, 2, 4] (lv' := [(0, q_r 70), (1, q_i x1), (2, q_i x2), (4, q_i x4)]) rfl ?_
        exact bk_X8_isDoneFor_49 hK hR hrec_5 hF
      · have hF := if_t hF hc
        refine aw_aload_n hK 0 rfl dX8_isDoneFor_20 ?_
        refine aw_iload_n hK 1 rfl dX8_isDoneFor_21 ?_
        refine aw_iload hK 4 rfl dX8_isDoneFor_22 ?_
        obtain ⟨r5, m4, h3, hF⟩ := cal_some hF
        refine aw_cv hK 8 (as := [q_i x1, q_i x4]) (tr_X8_isEndOf h3) gX8_isDoneFor_X8_isEndOf rfl rfl rfl (by decide) (na := 2) (by decide +kernel) rfl ⟨by decide, by decide⟩ (Nat.zero_le _) (Nat.le_of_ble_eq_true rfl) dX8_isDoneFor_24 ?_
        refine aw_if_eq hK 53 rfl dX8_isDoneFor_27 (fun hc => ?_) (fun hc => ?_)
        · have hF := if_t hF hc
          refine aw_sub [0, 1, 2, 4] (lv' := [(0, q_r 70), (1, q_i x1), (2, q_i x2), (4, q_i x4)]) rfl ?_
          exact bk_X8_isDoneFor_53 hK hR hrec_5 hF
        · have hF := if_f hF hc
          refine aw_aload_n hK 0 rfl dX8_isDoneFor_30 ?_
          refine gf_8_37 hK rfl (100) rfl (List.mem_of_getElem? (i := 2) rfl) dX8_isDoneFor_31 ?_
          refine aw_bipush hK (32) rfl dX8_isDoneFor_34 ?_
          refine aw_aload_n hK 0 rfl dX8_isDoneFor_36 ?_
          refine gf_8_2 hK rfl (List.mem_of_getElem? (i := 3) rfl) dX8_isDoneFor_37 ?_
          refine aw_imul hK dX8_isDoneFor_40 ?_
          refine aw_iload hK 4 rfl dX8_isDoneFor_41 ?_
          refine aw_iadd hK dX8_isDoneFor_43 ?_
          obtain ⟨g6, hF⟩ := gd_some hF
          refine aw_iald hK rfl g6 dX8_isDoneFor_44 ?_
          refine aw_iload_n hK 2 rfl dX8_isDoneFor_45 ?_
          refine aw_icmp_ne hK 53 rfl dX8_isDoneFor_46 (fun hc => ?_) (fun hc => ?_)
          · have hF := if_f hF hc
            refine aw_sub [0, 1, 2, 4] (lv' := [(0, q_r 70), (1, q_i x1), (2, q_i x2), (4, q_i x4)]) rfl ?_
            exact bk_X8_isDoneFor_53 hK hR hrec_5 hF
          · have hF := if_t hF hc
            refine aw_sub [0, 1, 2, 4] (lv' := [(0, q_r 70), (1, q_i x1), (2, q_i x2), (4, q_i x4)]) rfl ?_
            exact bk_X8_isDoneFor_49 hK hR hrec_5 hF
def F_X8_isDoneFor (N : Nat) (m : Mem) (x1 : Int32) (x2 : Int32) : Option (Int32 × Mem) :=
  L_X8_isDoneFor_5 N N m x1 x2 (0 : Int32) (0 : Int32)
set_option maxRecDepth 100000 in
set_option maxHeartbeats 4000000 in
theorem tr_X8_isDoneFor {N : Nat} {m m' : Mem} {r : Int32} {x1 : Int32} {x2 : Int32} (hF : F_X8_isDoneFor N m x1 x2 = some (r, m')) : Tr yX8_isDoneFor wsX8_isDoneFor 1 22 [q_r 70, q_i x1, q_i x2] m (some r) m' := by
  refine tr_of (bytes := cX8_isDoneFor) (maxL := 5) (ret := (some .boolean)) (by decide) rfl (Nat.le_of_ble_eq_true rfl) (fun K hK hR => ?_)
  have hK : KOK K cX8_isDoneFor 5 RX8 wsX8_isDoneFor 1 0 22 := hK
  show AW K 0 0 [(0, q_r 70), (1, q_i x1), (2, q_i x2)] [] m
  unfold F_X8_isDoneFor at hF
  refine aw_iconst hK (0) rfl dX8_isDoneFor_0 ?_
  refine aw_istore_n hK [(3, q_i (0 : Int32)), (0, q_r 70), (1, q_i x1), (2, q_i x2)] (by decide) rfl dX8_isDoneFor_1 ?_
  refine aw_iconst hK (0) rfl dX8_isDoneFor_2 ?_
  refine aw_istore hK [(4, q_i (0 : Int32)), (3, q_i (0 : Int32)), (0, q_r 70), (1, q_i x1), (2, q_i x2)] (by decide) rfl dX8_isDoneFor_3 ?_
  refine aw_sub [2, 3, 4, 1, 0] (lv' := [(0, q_r 70), (1, q_i x1), (2, q_i x2), (3, q_i (0 : Int32)), (4, q_i (0 : Int32))]) rfl ?_
  exact lp_X8_isDoneFor_5 hK hR _ hF
def S_X8_tellsBest_35 (N : Nat) (rec_23 : Mem → Int32 → Int32 → Int32 → Option Mem) (rec_35 : Mem → Int32 → Int32 → Int32 → Int32 → Option Mem) (m : Mem) (x1 : Int32) (x2 : Int32) (x3 : Int32) (x4 : Int32) : Option Mem :=
  cal (F_X8_goesHere N m x1 x2 x4) fun r13 m12 =>
  if r13 = x3 then (
    calv (F_X8_begins_ N m12 (0 : Int32)) fun m15 =>
    calv (F_X8_closesHere N m15 x1 x2) fun m17 =>
    gd (inb (m17 70 42) (alen 104)) <|
    bnd (mup m17 104 (ix (m17 70 42)) x4) fun m19 =>
    bnd (mup m19 70 42 ((m19 70 42) + (1 : Int32))) fun m20 =>
    rec_23 m20 x1 x2 x3
  ) else (
    bnd (x4 + (1 : Int32)) fun y21 =>
    rec_35 m12 x1 x2 x3 y21
  )
def L_X8_tellsBest_35 (N : Nat) (rec_23 : Mem → Int32 → Int32 → Int32 → Option Mem) : Nat → Mem → Int32 → Int32 → Int32 → Int32 → Option Mem
  | 0 => fun _ _ _ _ _ => none
  | f + 1 => S_X8_tellsBest_35 N rec_23 (L_X8_tellsBest_35 N rec_23 f)
set_option maxRecDepth 100000 in
set_option maxHeartbeats 4000000 in
theorem lp_X8_tellsBest_35 {N : Nat} {K : KT} {m' : Mem} {rec_23 : Mem → Int32 → Int32 → Int32 → Option Mem} (hK : KOK K cX8_tellsBest 5 RX8 wsX8_tellsBest 3 0 75) (hR : KRet K none none m') (hrec_23 : ∀ {m : Mem} {x1 : Int32} {x2 : Int32} {x3 : Int32}, rec_23 m x1 x2 x3 = some m' → AW K 0 23 [(0, q_r 70), (1, q_i x1), (2, q_i x2), (3, q_i x3)] [] m) : ∀ (f : Nat) {m : Mem} {x1 : Int32} {x2 : Int32} {x3 : Int32} {x4 : Int32}, L_X8_tellsBest_35 N rec_23 f m x1 x2 x3 x4 = some m' → AW K 0 35 [(0, q_r 70), (1, q_i x1), (2, q_i x2), (3, q_i x3), (4, q_i x4)] [] m := by
  intro f
  induction f with
  | zero => intro m x1 x2 x3 x4 hF; cases hF
  | succ f hrec_35 =>
    intro m x1 x2 x3 x4 hF
    have hF : S_X8_tellsBest_35 N rec_23 (L_X8_tellsBest_35 N rec_23 f) m x1 x2 x3 x4 = some m' := hF
    unfold S_X8_tellsBest_35 at hF
    refine aw_aload_n hK 0 rfl dX8_tellsBest_35 ?_
    refine aw_iload_n hK 1 rfl dX8_tellsBest_36 ?_
    refine aw_iload_n hK 2 rfl dX8_tellsBest_37 ?_
    refine aw_iload hK 4 rfl dX8_tellsBest_38 ?_
    obtain ⟨r13, m12, h11, hF⟩ := cal_some hF
    refine aw_cv hK 8 (as := [q_i x1, q_i x2, q_i x4]) (tr_X8_goesHere h11) gX8_tellsBest_X8_goesHere rfl rfl rfl (by decide) (na := 3) (by decide +kernel) rfl ⟨by decide, by decide⟩ (Nat.zero_le _) (Nat.le_of_ble_eq_true rfl) dX8_tellsBest_40 ?_
    refine aw_iload_n hK 3 rfl dX8_tellsBest_43 ?_
    refine aw_icmp_eq hK 53 rfl dX8_tellsBest_44 (fun hc => ?_) (fun hc => ?_)
    · have hF := if_t hF hc
      refine aw_aload_n hK 0 rfl dX8_tellsBest_53 ?_
      refine aw_iconst hK (0) rfl dX8_tellsBest_54 ?_
      obtain ⟨m15, h14, hF⟩ := calv_some hF
      refine aw_cv hK 8 (as := [q_i (0 : Int32)]) (tr_X8_begins_ h14) gX8_tellsBest_X8_begins_ rfl rfl rfl (by decide) (na := 1) (by decide +kernel) rfl ⟨by decide, by decide⟩ (Nat.zero_le _) (Nat.le_of_ble_eq_true rfl) dX8_tellsBest_55 ?_
      refine aw_aload_n hK 0 rfl dX8_tellsBest_58 ?_
      refine aw_iload_n hK 1 rfl dX8_tellsBest_59 ?_
      refine aw_iload_n hK 2 rfl dX8_tellsBest_60 ?_
      obtain ⟨m17, h16, hF⟩ := calv_some hF
      refine aw_cv hK 8 (as := [q_i x1, q_i x2]) (tr_X8_closesHere h16) gX8_tellsBest_X8_closesHere rfl rfl rfl (by decide) (na := 2) (by decide +kernel) rfl ⟨by decide, by decide⟩ (Nat.zero_le _) (Nat.le_of_ble_eq_true rfl) dX8_tellsBest_61 ?_
      refine aw_aload_n hK 0 rfl dX8_tellsBest_64 ?_
      refine gf_8_41 hK rfl (104) rfl (List.mem_of_getElem? (i := 3) rfl) dX8_tellsBest_65 ?_
      refine aw_aload_n hK 0 rfl dX8_tellsBest_68 ?_
      refine gf_8_42 hK rfl (List.mem_of_getElem? (i := 2) rfl) dX8_tellsBest_69 ?_
      refine aw_iload hK 4 rfl dX8_tellsBest_72 ?_
      obtain ⟨g18, hF⟩ := gd_some hF
      refine aw_iast hK rfl g18 dX8_tellsBest_74 ?_
      obtain ⟨m19, hm19, hF⟩ := bnd_some hF
      refine aw_mm hm19 ?_
      refine aw_aload_n hK 0 rfl dX8_tellsBest_75 ?_
      refine aw_dup hK rfl dX8_tellsBest_76 ?_
      refine gf_8_42 hK rfl (List.mem_of_getElem? (i := 2) rfl) dX8_tellsBest_77 ?_
      refine aw_iconst hK (1) rfl dX8_tellsBest_80 ?_
      refine aw_iadd hK dX8_tellsBest_81 ?_
      refine pf_8_42 hK rfl (List.mem_of_getElem? (i := 2) rfl) dX8_tellsBest_82 ?_
      obtain ⟨m20, hm20, hF⟩ := bnd_some hF
      refine aw_mm hm20 ?_
      refine aw_goto hK 23 rfl dX8_tellsBest_85 ?_
      refine aw_sub [0, 1, 2, 3] (lv' := [(0, q_r 70), (1, q_i x1), (2, q_i x2), (3, q_i x3)]) rfl ?_
      exact hrec_23 hF
    · have hF := if_f hF hc
      obtain ⟨y21, hy21, hF⟩ := bnd_some hF
      refine aw_iinc hK (cz := 1) 4 [(4, q_i y21), (0, q_r 70), (1, q_i x1), (2, q_i x2), (3, q_i x3)] (by decide) rfl rfl hy21 rfl dX8_tellsBest_47 ?_
      refine aw_goto hK 35 rfl dX8_tellsBest_50 ?_
      refine aw_sub [1, 2, 3, 4, 0] (lv' := [(0, q_r 70), (1, q_i x1), (2, q_i x2), (3, q_i x3), (4, q_i y21)]) rfl ?_
      exact hrec_35 hF
def S_X8_tellsBest_23 (N : Nat) (rec_23 : Mem → Int32 → Int32 → Int32 → Option Mem) (m : Mem) (x1 : Int32) (x2 : Int32) (x3 : Int32) : Option Mem :=
  cal (F_X8_isDoneFor N m x1 x3) fun r10 m9 =>
  if r10 = (0 : Int32) then (
    L_X8_tellsBest_35 N rec_23 N m9 x1 x2 x3 (0 : Int32)
  ) else (
    some m9
  )
def L_X8_tellsBest_23 (N : Nat) : Nat → Mem → Int32 → Int32 → Int32 → Option Mem
  | 0 => fun _ _ _ _ => none
  | f + 1 => S_X8_tellsBest_23 N (L_X8_tellsBest_23 N f)
set_option maxRecDepth 100000 in
set_option maxHeartbeats 4000000 in
theorem lp_X8_tellsBest_23 {N : Nat} {K : KT} {m' : Mem} (hK : KOK K cX8_tellsBest 5 RX8 wsX8_tellsBest 3 0 75) (hR : KRet K none none m') : ∀ (f : Nat) {m : Mem} {x1 : Int32} {x2 : Int32} {x3 : Int32}, L_X8_tellsBest_23 N f m x1 x2 x3 = some m' → AW K 0 23 [(0, q_r 70), (1, q_i x1), (2, q_i x2), (3, q_i x3)] [] m := by
  intro f
  induction f with
  | zero => intro m x1 x2 x3 hF; cases hF
  | succ f hrec_23 =>
    intro m x1 x2 x3 hF
    have hF : S_X8_tellsBest_23 N (L_X8_tellsBest_23 N f) m x1 x2 x3 = some m' := hF
    unfold S_X8_tellsBest_23 at hF
    refine aw_aload_n hK 0 rfl dX8_tellsBest_23 ?_
    refine aw_iload_n hK 1 rfl dX8_tellsBest_24 ?_
    refine aw_iload_n hK 3 rfl dX8_tellsBest_25 ?_
    obtain ⟨r10, m9, h8, hF⟩ := cal_some hF
    refine aw_cv hK 8 (as := [q_i x1, q_i x3]) (tr_X8_isDoneFor h8) gX8_tellsBest_X8_isDoneFor rfl rfl rfl (by decide) (na := 2) (by decide +kernel) rfl ⟨by decide, by decide⟩ (Nat.zero_le _) (Nat.le_of_ble_eq_true rfl) dX8_tellsBest_26 ?_
    refine aw_if_ne hK 88 rfl dX8_tellsBest_29 (fun hc => ?_) (fun hc => ?_)
    · have hF := if_f hF hc
      obtain rfl := Option.some.inj hF
      exact aw_vret hK hR dX8_tellsBest_88
    · have hF := if_t hF hc
      refine aw_iconst hK (0) rfl dX8_tellsBest_32 ?_
      refine aw_istore hK [(4, q_i (0 : Int32)), (0, q_r 70), (1, q_i x1), (2, q_i x2), (3, q_i x3)] (by decide) rfl dX8_tellsBest_33 ?_
      refine aw_sub [1, 2, 3, 4, 0] (lv' := [(0, q_r 70), (1, q_i x1), (2, q_i x2), (3, q_i x3), (4, q_i (0 : Int32))]) rfl ?_
      exact lp_X8_tellsBest_35 hK hR hrec_23 _ hF
def F_X8_tellsBest (N : Nat) (m : Mem) (x1 : Int32) (x2 : Int32) : Option Mem :=
  gd (inb (0 : Int32) (alen 99)) <|
  bnd (m 99 (ix (0 : Int32))) fun y2 =>
  calv (F_X8_begins_ N m (1 : Int32)) fun m4 =>
  calv (F_X8_closesHere N m4 x1 x2) fun m6 =>
  bnd (mup m6 70 42 (0 : Int32)) fun m7 =>
  L_X8_tellsBest_23 N N m7 x1 x2 y2
set_option maxRecDepth 100000 in
set_option maxHeartbeats 4000000 in
theorem tr_X8_tellsBest {N : Nat} {m m' : Mem} {x1 : Int32} {x2 : Int32} (hF : F_X8_tellsBest N m x1 x2 = some m') : Tr yX8_tellsBest wsX8_tellsBest 3 75 [q_r 70, q_i x1, q_i x2] m none m' := by
  refine tr_of (bytes := cX8_tellsBest) (maxL := 5) (ret := none) (by decide) rfl (Nat.le_of_ble_eq_true rfl) (fun K hK hR => ?_)
  have hK : KOK K cX8_tellsBest 5 RX8 wsX8_tellsBest 3 0 75 := hK
  show AW K 0 0 [(0, q_r 70), (1, q_i x1), (2, q_i x2)] [] m
  unfold F_X8_tellsBest at hF
  refine aw_aload_n hK 0 rfl dX8_tellsBest_0 ?_
  refine gf_8_36 hK rfl (99) rfl (List.mem_of_getElem? (i := 1) rfl) dX8_tellsBest_1 ?_
  refine aw_iconst hK (0) rfl dX8_tellsBest_4 ?_
  obtain ⟨g1, hF⟩ := gd_some hF
  refine aw_iald hK rfl g1 dX8_tellsBest_5 ?_
  obtain ⟨y2, hy2, hF⟩ := bnd_some hF
  refine aw_nm hy2 ?_
  refine aw_istore_n hK [(3, q_i y2), (0, q_r 70), (1, q_i x1), (2, q_i x2)] (by decide) rfl dX8_tellsBest_6 ?_
  refine aw_aload_n hK 1 rfl dX8_tellsBest_7 ?_
  refine aw_iconst hK (1) rfl dX8_tellsBest_8 ?_
  obtain ⟨m4, h3, hF⟩ := calv_some hF
  refine aw_cv hK 8 (as := [q_i (1 : Int32)]) (tr_X8_begins_ h3) gX8_tellsBest_X8_begins_ rfl rfl rfl (by decide) (na := 1) (by decide +kernel) rfl ⟨by decide, by decide⟩ (Nat.zero_le _) (Nat.le_of_ble_eq_true rfl) dX8_tellsBest_9 ?_
  refine aw_aload_n hK 1 rfl dX8_tellsBest_12 ?_
  refine aw_iload_n hK 2 rfl dX8_tellsBest_13 ?_
  refine aw_iload_n hK 3 rfl dX8_tellsBest_14 ?_
  obtain ⟨m6, h5, hF⟩ := calv_some hF
  refine aw_cv hK 8 (as := [q_i x1, q_i x2]) (tr_X8_closesHere h5) gX8_tellsBest_X8_closesHere rfl rfl rfl (by decide) (na := 2) (by decide +kernel) rfl ⟨by decide, by decide⟩ (Nat.zero_le _) (Nat.le_of_ble_eq_true rfl) dX8_tellsBest_15 ?_
  refine aw_aload_n hK 1 rfl dX8_tellsBest_18 ?_
  refine aw_iconst hK (0) rfl dX8_tellsBest_19 ?_
  refine pf_8_42 hK rfl (List.mem_of_getElem? (i := 2) rfl) dX8_tellsBest_20 ?_
  obtain ⟨m7, hm7, hF⟩ := bnd_some hF
  refine aw_mm hm7 ?_
  refine aw_sub [1, 2, 3, 0] (lv' := [(0, q_r 70), (1, q_i x1), (2, q_i x2), (3, q_i y2)]) rfl ?_
  exact lp_X8_tellsBest_23 hK hR _ hF
