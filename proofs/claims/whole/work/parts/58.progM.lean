def B_X8_best_18 (N : Nat) (m : Mem) (x1 : Int32) (x2 : Int32) (x3 : Int32) (s0 : Int32) : Option (Int32 × Mem) :=
  cal (F_X8_isFine N m s0) fun r6 m5 =>
  if r6 = (0 : Int32) then (
    some ((0 : Int32), m5)
  ) else (
    calv (F_X8_rests N m5 x1 x2) fun m8 =>
    gd (inb (0 : Int32) (alen 99)) <|
    if (m8 99 (ix (0 : Int32))) = (2000000000 : Int32) then (
      some ((-1 : Int32), m8)
    ) else (
      calv (F_X8_tellsBest N m8 x1 x2) fun m11 =>
      cal (F_X8_letterAt N m11 x3) fun r14 m13 =>
      some (r14, m13)
    )
  )
set_option maxRecDepth 100000 in
set_option maxHeartbeats 4000000 in
theorem bk_X8_best_18 {N : Nat} {K : KT} {m' : Mem} {r : Int32} (hK : KOK K cX8_best 4 RX8 wsX8_best 4 0 99) (hR : KRet K (some .int) (some r) m') {m : Mem} {x1 : Int32} {x2 : Int32} {x3 : Int32} {s0 : Int32} (hF : B_X8_best_18 N m x1 x2 x3 s0 = some (r, m')) : AW K 0 18 [(0, q_r 70), (1, q_i x1), (2, q_i x2), (3, q_i x3)] [q_i s0, q_r 70] m := by
  unfold B_X8_best_18 at hF
  obtain ⟨r6, m5, h4, hF⟩ := cal_some hF
  refine aw_cv hK 8 (as := [q_i s0]) (tr_X8_isFine h4) gX8_best_X8_isFine rfl rfl rfl (by decide) (na := 1) (by decide +kernel) rfl ⟨by decide, by decide⟩ (Nat.zero_le _) (Nat.le_of_ble_eq_true rfl) dX8_best_18 ?_
  refine aw_if_ne hK 26 rfl dX8_best_21 (fun hc => ?_) (fun hc => ?_)
  · have hF := if_f hF hc
    refine aw_aload_n hK 0 rfl dX8_best_26 ?_
    refine aw_iload_n hK 1 rfl dX8_best_27 ?_
    refine aw_iload_n hK 2 rfl dX8_best_28 ?_
    obtain ⟨m8, h7, hF⟩ := calv_some hF
    refine aw_cv hK 8 (as := [q_i x1, q_i x2]) (tr_X8_rests h7) gX8_best_X8_rests rfl rfl rfl (by decide) (na := 2) (by decide +kernel) rfl ⟨by decide, by decide⟩ (Nat.zero_le _) (Nat.le_of_ble_eq_true rfl) dX8_best_29 ?_
    refine aw_aload_n hK 0 rfl dX8_best_32 ?_
    refine gf_8_36 hK rfl (99) rfl (List.mem_of_getElem? (i := 1) rfl) dX8_best_33 ?_
    refine aw_iconst hK (0) rfl dX8_best_36 ?_
    obtain ⟨g9, hF⟩ := gd_some hF
    refine aw_iald hK rfl g9 dX8_best_37 ?_
    refine aw_ldc_w hK (2000000000) (List.mem_of_getElem? (i := 2) rfl) dX8_best_38 ?_
    refine aw_icmp_ne hK 46 rfl dX8_best_41 (fun hc => ?_) (fun hc => ?_)
    · have hF := if_f hF hc
      refine aw_aload_n hK 0 rfl dX8_best_46 ?_
      refine aw_iload_n hK 1 rfl dX8_best_47 ?_
      refine aw_iload_n hK 2 rfl dX8_best_48 ?_
      obtain ⟨m11, h10, hF⟩ := calv_some hF
      refine aw_cv hK 8 (as := [q_i x1, q_i x2]) (tr_X8_tellsBest h10) gX8_best_X8_tellsBest rfl rfl rfl (by decide) (na := 2) (by decide +kernel) rfl ⟨by decide, by decide⟩ (Nat.zero_le _) (Nat.le_of_ble_eq_true rfl) dX8_best_49 ?_
      refine aw_aload_n hK 0 rfl dX8_best_52 ?_
      refine aw_iload_n hK 3 rfl dX8_best_53 ?_
      obtain ⟨r14, m13, h12, hF⟩ := cal_some hF
      refine aw_cv hK 8 (as := [q_i x3]) (tr_X8_letterAt h12) gX8_best_X8_letterAt rfl rfl rfl (by decide) (na := 1) (by decide +kernel) rfl ⟨by decide, by decide⟩ (Nat.zero_le _) (Nat.le_of_ble_eq_true rfl) dX8_best_54 ?_
      obtain ⟨rfl, rfl⟩ := so_inj hF
      exact aw_iret hK hR rfl dX8_best_57
    · have hF := if_t hF hc
      refine aw_iconst hK (-1) rfl dX8_best_44 ?_
      obtain ⟨rfl, rfl⟩ := so_inj hF
      exact aw_iret hK hR rfl dX8_best_45
  · have hF := if_t hF hc
    refine aw_iconst hK (0) rfl dX8_best_24 ?_
    obtain ⟨rfl, rfl⟩ := so_inj hF
    exact aw_iret hK hR rfl dX8_best_25
def B_X8_best_17 (N : Nat) (m : Mem) (x1 : Int32) (x2 : Int32) (x3 : Int32) : Option (Int32 × Mem) :=
  B_X8_best_18 N m x1 x2 x3 (1 : Int32)
set_option maxRecDepth 100000 in
set_option maxHeartbeats 4000000 in
theorem bk_X8_best_17 {N : Nat} {K : KT} {m' : Mem} {r : Int32} (hK : KOK K cX8_best 4 RX8 wsX8_best 4 0 99) (hR : KRet K (some .int) (some r) m') {m : Mem} {x1 : Int32} {x2 : Int32} {x3 : Int32} (hF : B_X8_best_17 N m x1 x2 x3 = some (r, m')) : AW K 0 17 [(0, q_r 70), (1, q_i x1), (2, q_i x2), (3, q_i x3)] [q_r 70] m := by
  unfold B_X8_best_17 at hF
  refine aw_iconst hK (1) rfl dX8_best_17 ?_
  refine aw_sub [0, 1, 2, 3] (lv' := [(0, q_r 70), (1, q_i x1), (2, q_i x2), (3, q_i x3)]) rfl ?_
  exact bk_X8_best_18 hK hR hF
def F_X8_best (N : Nat) (m : Mem) (x1 : Int32) (x2 : Int32) (x3 : Int32) : Option (Int32 × Mem) :=
  cal (F_X8_isMachine N m x1) fun r3 m2 =>
  if r3 = (0 : Int32) then (
    B_X8_best_17 N m2 x1 x2 x3
  ) else (
    if x3 < (0 : Int32) then (
      B_X8_best_17 N m2 x1 x2 x3
    ) else (
      B_X8_best_18 N m2 x1 x2 x3 (0 : Int32)
    )
  )
set_option maxRecDepth 100000 in
set_option maxHeartbeats 4000000 in
theorem tr_X8_best {N : Nat} {m m' : Mem} {r : Int32} {x1 : Int32} {x2 : Int32} {x3 : Int32} (hF : F_X8_best N m x1 x2 x3 = some (r, m')) : Tr yX8_best wsX8_best 4 99 [q_r 70, q_i x1, q_i x2, q_i x3] m (some r) m' := by
  refine tr_of (bytes := cX8_best) (maxL := 4) (ret := (some .int)) (by decide) rfl (Nat.le_of_ble_eq_true rfl) (fun K hK hR => ?_)
  have hK : KOK K cX8_best 4 RX8 wsX8_best 4 0 99 := hK
  show AW K 0 0 [(0, q_r 70), (1, q_i x1), (2, q_i x2), (3, q_i x3)] [] m
  unfold F_X8_best at hF
  refine aw_aload_n hK 0 rfl dX8_best_0 ?_
  refine aw_aload_n hK 0 rfl dX8_best_1 ?_
  refine aw_iload_n hK 1 rfl dX8_best_2 ?_
  obtain ⟨r3, m2, h1, hF⟩ := cal_some hF
  refine aw_cv hK 8 (as := [q_i x1]) (tr_X8_isMachine h1) gX8_best_X8_isMachine rfl rfl rfl (by decide) (na := 1) (by decide +kernel) rfl ⟨by decide, by decide⟩ (Nat.zero_le _) (Nat.le_of_ble_eq_true rfl) dX8_best_3 ?_
  refine aw_if_eq hK 17 rfl dX8_best_6 (fun hc => ?_) (fun hc => ?_)
  · have hF := if_t hF hc
    refine aw_sub [0, 1, 2, 3] (lv' := [(0, q_r 70), (1, q_i x1), (2, q_i x2), (3, q_i x3)]) rfl ?_
    exact bk_X8_best_17 hK hR hF
  · have hF := if_f hF hc
    refine aw_iload_n hK 3 rfl dX8_best_9 ?_
    refine aw_if_lt hK 17 rfl dX8_best_10 (fun hc => ?_) (fun hc => ?_)
    · have hF := if_t hF hc
      refine aw_sub [0, 1, 2, 3] (lv' := [(0, q_r 70), (1, q_i x1), (2, q_i x2), (3, q_i x3)]) rfl ?_
      exact bk_X8_best_17 hK hR hF
    · have hF := if_f hF hc
      refine aw_iconst hK (0) rfl dX8_best_13 ?_
      refine aw_goto hK 18 rfl dX8_best_14 ?_
      refine aw_sub [0, 1, 2, 3] (lv' := [(0, q_r 70), (1, q_i x1), (2, q_i x2), (3, q_i x3)]) rfl ?_
      exact bk_X8_best_18 hK hR hF
def P_X8_lesser (x0 : Int32) (x1 : Int32) : Int32 :=
  if x1 ≤ x0 then (
    x1
  ) else (
    x0
  )
def F_X8_lesser (m : Mem) (x0 : Int32) (x1 : Int32) : Option (Int32 × Mem) :=
  if x1 ≤ x0 then (
    some (x1, m)
  ) else (
    some (x0, m)
  )
set_option maxRecDepth 100000 in
set_option maxHeartbeats 4000000 in
theorem tr_X8_lesser {m m' : Mem} {r : Int32} {x0 : Int32} {x1 : Int32} (hF : F_X8_lesser m x0 x1 = some (r, m')) : Tr yX8_lesser wsX8_lesser 0 0 [q_i x0, q_i x1] m (some r) m' := by
  refine tr_of (bytes := cX8_lesser) (maxL := 2) (ret := (some .int)) (by decide) rfl (Nat.le_of_ble_eq_true rfl) (fun K hK hR => ?_)
  have hK : KOK K cX8_lesser 2 RX8 wsX8_lesser 0 0 0 := hK
  show AW K 0 0 [(0, q_i x0), (1, q_i x1)] [] m
  unfold F_X8_lesser at hF
  refine aw_iload_n hK 0 rfl dX8_lesser_0 ?_
  refine aw_iload_n hK 1 rfl dX8_lesser_1 ?_
  refine aw_icmp_ge hK 9 rfl dX8_lesser_2 (fun hc => ?_) (fun hc => ?_)
  · have hF := if_t hF hc
    refine aw_iload_n hK 1 rfl dX8_lesser_9 ?_
    obtain ⟨rfl, rfl⟩ := so_inj hF
    exact aw_iret hK hR rfl dX8_lesser_10
  · have hF := if_f hF hc
    refine aw_iload_n hK 0 rfl dX8_lesser_5 ?_
    refine aw_goto hK 10 rfl dX8_lesser_6 ?_
    obtain ⟨rfl, rfl⟩ := so_inj hF
    exact aw_iret hK hR rfl dX8_lesser_10
theorem fp_X8_lesser (m : Mem) (x0 : Int32) (x1 : Int32) : F_X8_lesser m x0 x1 = some (P_X8_lesser x0 x1, m) := by
  simp only [F_X8_lesser, P_X8_lesser]
  repeat (first | rfl | split)
theorem trp_X8_lesser (x0 : Int32) (x1 : Int32) (m : Mem) : Tr yX8_lesser wsX8_lesser 0 0 [q_i x0, q_i x1] m (some (P_X8_lesser x0 x1)) m := tr_X8_lesser (fp_X8_lesser m x0 x1)
def B_X8_plus_16 (N : Nat) (m : Mem) (s0 : Int32) : Option (Int32 × Mem) :=
  some (s0, m)
set_option maxRecDepth 100000 in
set_option maxHeartbeats 4000000 in
theorem bk_X8_plus_16 {N : Nat} {K : KT} {m' : Mem} {r : Int32} (hK : KOK K cX8_plus 3 RX8 wsX8_plus 0 0 0) (hR : KRet K (some .int) (some r) m') {m : Mem} {s0 : Int32} (hF : B_X8_plus_16 N m s0 = some (r, m')) : AW K 0 16 [] [q_i s0] m := by
  unfold B_X8_plus_16 at hF
  obtain ⟨rfl, rfl⟩ := so_inj hF
  exact aw_iret hK hR rfl dX8_plus_16
def F_X8_plus (N : Nat) (m : Mem) (x1 : Int32) (x2 : Int32) : Option (Int32 × Mem) :=
  if x1 = (2000000000 : Int32) then (
    B_X8_plus_16 N m (2000000000 : Int32)
  ) else (
    B_X8_plus_16 N m (x1 + x2)
  )
set_option maxRecDepth 100000 in
set_option maxHeartbeats 4000000 in
theorem tr_X8_plus {N : Nat} {m m' : Mem} {r : Int32} {x1 : Int32} {x2 : Int32} (hF : F_X8_plus N m x1 x2 = some (r, m')) : Tr yX8_plus wsX8_plus 0 0 [q_r 70, q_i x1, q_i x2] m (some r) m' := by
  refine tr_of (bytes := cX8_plus) (maxL := 3) (ret := (some .int)) (by decide) rfl (Nat.le_of_ble_eq_true rfl) (fun K hK hR => ?_)
  have hK : KOK K cX8_plus 3 RX8 wsX8_plus 0 0 0 := hK
  show AW K 0 0 [(0, q_r 70), (1, q_i x1), (2, q_i x2)] [] m
  unfold F_X8_plus at hF
  refine aw_iload_n hK 1 rfl dX8_plus_0 ?_
  refine aw_ldc_w hK (2000000000) (List.mem_of_getElem? (i := 1) rfl) dX8_plus_1 ?_
  refine aw_icmp_ne hK 13 rfl dX8_plus_4 (fun hc => ?_) (fun hc => ?_)
  · have hF := if_f hF hc
    refine aw_iload_n hK 1 rfl dX8_plus_13 ?_
    refine aw_iload_n hK 2 rfl dX8_plus_14 ?_
    refine aw_iadd hK dX8_plus_15 ?_
    refine aw_sub [] (lv' := []) rfl ?_
    exact bk_X8_plus_16 hK hR hF
  · have hF := if_t hF hc
    refine aw_ldc_w hK (2000000000) (List.mem_of_getElem? (i := 1) rfl) dX8_plus_7 ?_
    refine aw_goto hK 16 rfl dX8_plus_10 ?_
    refine aw_sub [] (lv' := []) rfl ?_
    exact bk_X8_plus_16 hK hR hF
def B_X8_change_28 (N : Nat) (m : Mem) (s0 : Int32) : Option (Int32 × Mem) :=
  some (s0, m)
set_option maxRecDepth 100000 in
set_option maxHeartbeats 4000000 in
theorem bk_X8_change_28 {N : Nat} {K : KT} {m' : Mem} {r : Int32} (hK : KOK K cX8_change 3 RX8 wsX8_change 0 0 0) (hR : KRet K (some .int) (some r) m') {m : Mem} {s0 : Int32} (hF : B_X8_change_28 N m s0 = some (r, m')) : AW K 0 28 [] [q_i s0] m := by
  unfold B_X8_change_28 at hF
  obtain ⟨rfl, rfl⟩ := so_inj hF
  exact aw_iret hK hR rfl dX8_change_28
def B_X8_change_27 (N : Nat) (m : Mem) : Option (Int32 × Mem) :=
  B_X8_change_28 N m (1 : Int32)
set_option maxRecDepth 100000 in
set_option maxHeartbeats 4000000 in
theorem bk_X8_change_27 {N : Nat} {K : KT} {m' : Mem} {r : Int32} (hK : KOK K cX8_change 3 RX8 wsX8_change 0 0 0) (hR : KRet K (some .int) (some r) m') {m : Mem} (hF : B_X8_change_27 N m = some (r, m')) : AW K 0 27 [] [] m := by
  unfold B_X8_change_27 at hF
  refine aw_iconst hK (1) rfl dX8_change_27 ?_
  refine aw_sub [] (lv' := []) rfl ?_
  exact bk_X8_change_28 hK hR hF
def F_X8_change (N : Nat) (m : Mem) (x1 : Int32) (x2 : Int32) : Option (Int32 × Mem) :=
  if (m 70 2) ≤ x2 then (
    B_X8_change_27 N m
  ) else (
    gd (inb x2 (alen 71)) <|
    gd (inb x1 (alen 76)) <|
    if (m 71 (ix x2)) = (m 76 (ix x1)) then (
      B_X8_change_28 N m (0 : Int32)
    ) else (
      B_X8_change_27 N m
    )
  )
set_option maxRecDepth 100000 in
set_option maxHeartbeats 4000000 in
theorem tr_X8_change {N : Nat} {m m' : Mem} {r : Int32} {x1 : Int32} {x2 : Int32} (hF : F_X8_change N m x1 x2 = some (r, m')) : Tr yX8_change wsX8_change 0 0 [q_r 70, q_i x1, q_i x2] m (some r) m' := by
  refine tr_of (bytes := cX8_change) (maxL := 3) (ret := (some .int)) (by decide) rfl (Nat.le_of_ble_eq_true rfl) (fun K hK hR => ?_)
  have hK : KOK K cX8_change 3 RX8 wsX8_change 0 0 0 := hK
  show AW K 0 0 [(0, q_r 70), (1, q_i x1), (2, q_i x2)] [] m
  unfold F_X8_change at hF
  refine aw_iload_n hK 2 rfl dX8_change_0 ?_
  refine aw_aload_n hK 0 rfl dX8_change_1 ?_
  refine gf_8_2 hK rfl (List.mem_of_getElem? (i := 1) rfl) dX8_change_2 ?_
  refine aw_icmp_ge hK 27 rfl dX8_change_5 (fun hc => ?_) (fun hc => ?_)
  · have hF := if_t hF hc
    refine aw_sub [] (lv' := []) rfl ?_
    exact bk_X8_change_27 hK hR hF
  · have hF := if_f hF hc
    refine aw_aload_n hK 0 rfl dX8_change_8 ?_
    refine gf_8_1 hK rfl (71) rfl (List.mem_of_getElem? (i := 2) rfl) dX8_change_9 ?_
    refine aw_iload_n hK 2 rfl dX8_change_12 ?_
    obtain ⟨g1, hF⟩ := gd_some hF
    refine aw_iald hK rfl g1 dX8_change_13 ?_
    refine aw_aload_n hK 0 rfl dX8_change_14 ?_
    refine gf_8_7 hK rfl (76) rfl (List.mem_of_getElem? (i := 3) rfl) dX8_change_15 ?_
    refine aw_iload_n hK 1 rfl dX8_change_18 ?_
    obtain ⟨g2, hF⟩ := gd_some hF
    refine aw_iald hK rfl g2 dX8_change_19 ?_
    refine aw_icmp_ne hK 27 rfl dX8_change_20 (fun hc => ?_) (fun hc => ?_)
    · have hF := if_f hF hc
      refine aw_sub [] (lv' := []) rfl ?_
      exact bk_X8_change_27 hK hR hF
    · have hF := if_t hF hc
      refine aw_iconst hK (0) rfl dX8_change_23 ?_
      refine aw_goto hK 28 rfl dX8_change_24 ?_
      refine aw_sub [] (lv' := []) rfl ?_
      exact bk_X8_change_28 hK hR hF
def B_X8_restsOfChanges_314 (N : Nat) (rec_53 : Mem → Int32 → Int32 → Option Mem) (rec_138 : Mem → Int32 → Int32 → Int32 → Option Mem) (rec_157 : Mem → Int32 → Int32 → Int32 → Int32 → Option Mem) (m : Mem) (x1 : Int32) (x3 : Int32) (x4 : Int32) (x5 : Int32) (s0 : Int32) : Option Mem :=
  gd (inb x3 (alen 75)) <|
  gd (inb x3 (alen 75)) <|
  gd (inb (((32 : Int32) * x4) + (m 75 (ix x3))) (alen 99)) <|
  gd (inb (((32 : Int32) * x4) + (m 75 (ix x3))) (alen 99)) <|
  bnd (mup m 99 (ix (((32 : Int32) * x4) + (m 75 (ix x3)))) (P_X8_lesser x5 (m 99 (ix (((32 : Int32) * x4) + (m 75 (ix x3))))))) fun m42 =>
  bnd (x4 + (1 : Int32)) fun y43 =>
  rec_157 m42 x1 s0 x3 y43
set_option maxRecDepth 100000 in
set_option maxHeartbeats 4000000 in
theorem bk_X8_restsOfChanges_314 {N : Nat} {K : KT} {m' : Mem} {rec_53 : Mem → Int32 → Int32 → Option Mem} {rec_138 : Mem → Int32 → Int32 → Int32 → Option Mem} {rec_157 : Mem → Int32 → Int32 → Int32 → Int32 → Option Mem} (hK : KOK K cX8_restsOfChanges 6 RX8 wsX8_restsOfChanges 1 0 22) (hR : KRet K none none m') (hrec_53 : ∀ {m : Mem} {x1 : Int32} {x2 : Int32}, rec_53 m x1 x2 = some m' → AW K 0 53 [(0, q_r 70), (1, q_i x1), (2, q_i x2)] [] m) (hrec_138 : ∀ {m : Mem} {x1 : Int32} {x2 : Int32} {x3 : Int32}, rec_138 m x1 x2 x3 = some m' → AW K 0 138 [(0, q_r 70), (1, q_i x1), (2, q_i x2), (3, q_i x3)] [] m) (hrec_157 : ∀ {m : Mem} {x1 : Int32} {x2 : Int32} {x3 : Int32} {x4 : Int32}, rec_157 m x1 x2 x3 x4 = some m' → AW K 0 157 [(0, q_r 70), (1, q_i x1), (2, q_i x2), (3, q_i x3), (4, q_i x4)] [] m) {m : Mem} {x1 : Int32} {x3 : Int32} {x4 : Int32} {x5 : Int32} {s0 : Int32} (hF : B_X8_restsOfChanges_314 N rec_53 rec_138 rec_157 m x1 x3 x4 x5 s0 = some m') : AW K 0 314 [(0, q_r 70), (1, q_i x1), (3, q_i x3), (4, q_i x4), (5, q_i x5)] [q_i s0] m := by
  unfold B_X8_restsOfChanges_314 at hF
  refine aw_istore_n hK [(2, q_i s0), (0, q_r 70), (1, q_i x1), (3, q_i x3), (4, q_i x4), (5, q_i x5)] (by decide) rfl dX8_restsOfChanges_314 ?_
  refine aw_aload_n hK 1 rfl dX8_restsOfChanges_315 ?_
  refine gf_8_36 hK rfl (99) rfl (List.mem_of_getElem? (i := 1) rfl) dX8_restsOfChanges_316 ?_
  refine aw_bipush hK (32) rfl dX8_restsOfChanges_319 ?_
  refine aw_iload hK 4 rfl dX8_restsOfChanges_321 ?_
  refine aw_imul hK dX8_restsOfChanges_323 ?_
  refine aw_aload_n hK 1 rfl dX8_restsOfChanges_324 ?_
  refine gf_8_6 hK rfl (75) rfl (List.mem_of_getElem? (i := 7) rfl) dX8_restsOfChanges_325 ?_
  refine aw_iload_n hK 3 rfl dX8_restsOfChanges_328 ?_
  obtain ⟨g38, hF⟩ := gd_some hF
  refine aw_iald hK rfl g38 dX8_restsOfChanges_329 ?_
  refine aw_iadd hK dX8_restsOfChanges_330 ?_
  refine aw_iload hK 5 rfl dX8_restsOfChanges_331 ?_
  refine aw_aload_n hK 1 rfl dX8_restsOfChanges_333 ?_
  refine gf_8_36 hK rfl (99) rfl (List.mem_of_getElem? (i := 1) rfl) dX8_restsOfChanges_334 ?_
  refine aw_bipush hK (32) rfl dX8_restsOfChanges_337 ?_
  refine aw_iload hK 4 rfl dX8_restsOfChanges_339 ?_
  refine aw_imul hK dX8_restsOfChanges_341 ?_
  refine aw_aload_n hK 1 rfl dX8_restsOfChanges_342 ?_
  refine gf_8_6 hK rfl (75) rfl (List.mem_of_getElem? (i := 7) rfl) dX8_restsOfChanges_343 ?_
  refine aw_iload_n hK 3 rfl dX8_restsOfChanges_346 ?_
  obtain ⟨g39, hF⟩ := gd_some hF
  refine aw_iald hK rfl g39 dX8_restsOfChanges_347 ?_
  refine aw_iadd hK dX8_restsOfChanges_348 ?_
  obtain ⟨g40, hF⟩ := gd_some hF
  refine aw_iald hK rfl g40 dX8_restsOfChanges_349 ?_
  refine aw_cs hK (as := [q_i x5, q_i (m 99 (ix (((32 : Int32) * x4) + (m 75 (ix x3)))))]) (trp_X8_lesser x5 (m 99 (ix (((32 : Int32) * x4) + (m 75 (ix x3))))) _) gX8_restsOfChanges_X8_lesser rfl (na := 2) (by decide +kernel) rfl ⟨by decide, by decide⟩ (Nat.zero_le _) (Nat.le_of_ble_eq_true rfl) dX8_restsOfChanges_350 ?_
  obtain ⟨g41, hF⟩ := gd_some hF
  refine aw_iast hK rfl g41 dX8_restsOfChanges_353 ?_
  obtain ⟨m42, hm42, hF⟩ := bnd_some hF
  refine aw_mm hm42 ?_
  obtain ⟨y43, hy43, hF⟩ := bnd_some hF
  refine aw_iinc hK (cz := 1) 4 [(4, q_i y43), (2, q_i s0), (0, q_r 70), (1, q_i x1), (3, q_i x3), (5, q_i x5)] (by decide) rfl rfl hy43 rfl dX8_restsOfChanges_354 ?_
  refine aw_goto hK 157 rfl dX8_restsOfChanges_357 ?_
  refine aw_sub [2, 3, 1, 4, 0] (lv' := [(0, q_r 70), (1, q_i x1), (2, q_i s0), (3, q_i x3), (4, q_i y43)]) rfl ?_
  exact hrec_157 hF
def B_X8_restsOfChanges_309 (N : Nat) (rec_53 : Mem → Int32 → Int32 → Option Mem) (rec_138 : Mem → Int32 → Int32 → Int32 → Option Mem) (rec_157 : Mem → Int32 → Int32 → Int32 → Int32 → Option Mem) (m : Mem) (x1 : Int32) (x3 : Int32) (x4 : Int32) (x5 : Int32) : Option Mem :=
  B_X8_restsOfChanges_314 N rec_53 rec_138 rec_157 m x1 x3 x4 x5 (1 : Int32)
set_option maxRecDepth 100000 in
set_option maxHeartbeats 4000000 in
theorem bk_X8_restsOfChanges_309 {N : Nat} {K : KT} {m' : Mem} {rec_53 : Mem → Int32 → Int32 → Option Mem} {rec_138 : Mem → Int32 → Int32 → Int32 → Option Mem} {rec_157 : Mem → Int32 → Int32 → Int32 → Int32 → Option Mem} (hK : KOK K cX8_restsOfChanges 6 RX8 wsX8_restsOfChanges 1 0 22) (hR : KRet K none none m') (hrec_53 : ∀ {m : Mem} {x1 : Int32} {x2 : Int32}, rec_53 m x1 x2 = some m' → AW K 0 53 [(0, q_r 70), (1, q_i x1), (2, q_i x2)] [] m) (hrec_138 : ∀ {m : Mem} {x1 : Int32} {x2 : Int32} {x3 : Int32}, rec_138 m x1 x2 x3 = some m' → AW K 0 138 [(0, q_r 70), (1, q_i x1), (2, q_i x2), (3, q_i x3)] [] m) (hrec_157 : ∀ {m : Mem} {x1 : Int32} {x2 : Int32} {x3 : Int32} {x4 : Int32}, rec_157 m x1 x2 x3 x4 = some m' → AW K 0 157 [(0, q_r 70), (1, q_i x1), (2, q_i x2), (3, q_i x3), (4, q_i x4)] [] m) {m : Mem} {x1 : Int32} {x3 : Int32} {x4 : Int32} {x5 : Int32} (hF : B_X8_restsOfChanges_309 N rec_53 rec_138 rec_157 m x1 x3 x4 x5 = some m') : AW K 0 309 [(0, q_r 70), (1, q_i x1), (3, q_i x3), (4, q_i x4), (5, q_i x5)] [] m := by
  unfold B_X8_restsOfChanges_309 at hF
  refine aw_iconst hK (1) rfl dX8_restsOfChanges_309 ?_
  refine aw_goto hK 314 rfl dX8_restsOfChanges_310 ?_
  refine aw_sub [0, 1, 2, 3, 4] (lv' := [(0, q_r 70), (1, q_i x1), (3, q_i x3), (4, q_i x4), (5, q_i x5)]) rfl ?_
  exact bk_X8_restsOfChanges_314 hK hR hrec_53 hrec_138 hrec_157 hF
def B_X8_restsOfChanges_281 (N : Nat) (rec_53 : Mem → Int32 → Int32 → Option Mem) (rec_138 : Mem → Int32 → Int32 → Int32 → Option Mem) (rec_157 : Mem → Int32 → Int32 → Int32 → Int32 → Option Mem) (m : Mem) (x1 : Int32) (x2 : Int32) (x3 : Int32) (x4 : Int32) (s0 : Int32) : Option Mem :=
  if x2 = (0 : Int32) then (
    gd (inb x3 (alen 75)) <|
    gd (inb (((32 : Int32) * x4) + (m 75 (ix x3))) (alen 99)) <|
    if (m 99 (ix (((32 : Int32) * x4) + (m 75 (ix x3))))) ≤ s0 then (
      B_X8_restsOfChanges_314 N rec_53 rec_138 rec_157 m x1 x3 x4 s0 (0 : Int32)
    ) else (
      B_X8_restsOfChanges_309 N rec_53 rec_138 rec_157 m x1 x3 x4 s0
    )
  ) else (
    B_X8_restsOfChanges_309 N rec_53 rec_138 rec_157 m x1 x3 x4 s0
  )
set_option maxRecDepth 100000 in
set_option maxHeartbeats 4000000 in
theorem bk_X8_restsOfChanges_281 {N : Nat} {K : KT} {m' : Mem} {rec_53 : Mem → Int32 → Int32 → Option Mem} {rec_138 : Mem → Int32 → Int32 → Int32 → Option Mem} {rec_157 : Mem → Int32 → Int32 → Int32 → Int32 → Option Mem} (hK : KOK K cX8_restsOfChanges 6 RX8 wsX8_restsOfChanges 1 0 22) (hR : KRet K none none m') (hrec_53 : ∀ {m : Mem} {x1 : Int32} {x2 : Int32}, rec_53 m x1 x2 = some m' → AW K 0 53 [(0, q_r 70), (1, q_i x1), (2, q_i x2)] [] m) (hrec_138 : ∀ {m : Mem} {x1 : Int32} {x2 : Int32} {x3 : Int32}, rec_138 m x1 x2 x3 = some m' → AW K 0 138 [(0, q_r 70), (1, q_i x1), (2, q_i x2), (3, q_i x3)] [] m) (hrec_157 : ∀ {m : Mem} {x1 : Int32} {x2 : Int32} {x3 : Int32} {x4 : Int32}, rec_157 m x1 x2 x3 x4 = some m' → AW K 0 157 [(0, q_r 70), (1, q_i x1), (2, q_i x2), (3, q_i x3), (4, q_i x4)] [] m) {m : Mem} {x1 : Int32} {x2 : Int32} {x3 : Int32} {x4 : Int32} {s0 : Int32} (hF : B_X8_restsOfChanges_281 N rec_53 rec_138 rec_157 m x1 x2 x3 x4 s0 = some m') : AW K 0 281 [(0, q_r 70), (1, q_i x1), (2, q_i x2), (3, q_i x3), (4, q_i x4)] [q_i s0] m := by
  unfold B_X8_restsOfChanges_281 at hF
  refine aw_istore hK [(5, q_i s0), (0, q_r 70), (1, q_i x1), (2, q_i x2), (3, q_i x3), (4, q_i x4)] (by decide) rfl dX8_restsOfChanges_281 ?_
  refine aw_iload_n hK 3 rfl dX8_restsOfChanges_283 ?_
  refine aw_if_ne hK 309 rfl dX8_restsOfChanges_284 (fun hc => ?_) (fun hc => ?_)
  · have hF := if_f hF hc
    refine aw_sub [1, 2, 4, 5, 0] (lv' := [(0, q_r 70), (1, q_i x1), (3, q_i x3), (4, q_i x4), (5, q_i s0)]) rfl ?_
    exact bk_X8_restsOfChanges_309 hK hR hrec_53 hrec_138 hrec_157 hF
  · have hF := if_t hF hc
    refine aw_iload hK 0 rfl dX8_restsOfChanges_287 ?_
    refine aw_aload_n hK 1 rfl dX8_restsOfChanges_289 ?_
    refine gf_8_36 hK rfl (99) rfl (List.mem_of_getElem? (i := 1) rfl) dX8_restsOfChanges_290 ?_
    refine aw_bipush hK (32) rfl dX8_restsOfChanges_293 ?_
    refine aw_iload hK 5 rfl dX8_restsOfChanges_295 ?_
    refine aw_imul hK dX8_restsOfChanges_297 ?_
    refine aw_aload_n hK 1 rfl dX8_restsOfChanges_298 ?_
    refine gf_8_6 hK rfl (75) rfl (List.mem_of_getElem? (i := 7) rfl) dX8_restsOfChanges_299 ?_
    refine aw_iload_n hK 4 rfl dX8_restsOfChanges_302 ?_
    obtain ⟨g36, hF⟩ := gd_some hF
    refine aw_iald hK rfl g36 dX8_restsOfChanges_303 ?_
    refine aw_iadd hK dX8_restsOfChanges_304 ?_
    obtain ⟨g37, hF⟩ := gd_some hF
    refine aw_iald hK rfl g37 dX8_restsOfChanges_305 ?_
    refine aw_icmp_ge hK 313 rfl dX8_restsOfChanges_306 (fun hc => ?_) (fun hc => ?_)
    · have hF := if_t hF hc
      refine aw_iconst hK (0) rfl dX8_restsOfChanges_313 ?_
      refine aw_sub [1, 2, 4, 5, 0] (lv' := [(0, q_r 70), (1, q_i x1), (3, q_i x3), (4, q_i x4), (5, q_i s0)]) rfl ?_
      exact bk_X8_restsOfChanges_314 hK hR hrec_53 hrec_138 hrec_157 hF
    · have hF := if_f hF hc
      refine aw_sub [1, 2, 4, 5, 0] (lv' := [(0, q_r 70), (1, q_i x1), (3, q_i x3), (4, q_i x4), (5, q_i s0)]) rfl ?_
      exact bk_X8_restsOfChanges_309 hK hR hrec_53 hrec_138 hrec_157 hF
def B_X8_restsOfChanges_279 (N : Nat) (rec_53 : Mem → Int32 → Int32 → Option Mem) (rec_138 : Mem → Int32 → Int32 → Int32 → Option Mem) (rec_157 : Mem → Int32 → Int32 → Int32 → Int32 → Option Mem) (m : Mem) (x1 : Int32) (x2 : Int32) (x3 : Int32) (x4 : Int32) (x5 : Int32) : Option Mem :=
  B_X8_restsOfChanges_281 N rec_53 rec_138 rec_157 m x1 x2 x3 x4 x5
set_option maxRecDepth 100000 in
set_option maxHeartbeats 4000000 in
theorem bk_X8_restsOfChanges_279 {N : Nat} {K : KT} {m' : Mem} {rec_53 : Mem → Int32 → Int32 → Option Mem} {rec_138 : Mem → Int32 → Int32 → Int32 → Option Mem} {rec_157 : Mem → Int32 → Int32 → Int32 → Int32 → Option Mem} (hK : KOK K cX8_restsOfChanges 6 RX8 wsX8_restsOfChanges 1 0 22) (hR : KRet K none none m') (hrec_53 : ∀ {m : Mem} {x1 : Int32} {x2 : Int32}, rec_53 m x1 x2 = some m' → AW K 0 53 [(0, q_r 70), (1, q_i x1), (2, q_i x2)] [] m) (hrec_138 : ∀ {m : Mem} {x1 : Int32} {x2 : Int32} {x3 : Int32}, rec_138 m x1 x2 x3 = some m' → AW K 0 138 [(0, q_r 70), (1, q_i x1), (2, q_i x2), (3, q_i x3)] [] m) (hrec_157 : ∀ {m : Mem} {x1 : Int32} {x2 : Int32} {x3 : Int32} {x4 : Int32}, rec_157 m x1 x2 x3 x4 = some m' → AW K 0 157 [(0, q_r 70), (1, q_i x1), (2, q_i x2), (3, q_i x3), (4, q_i x4)] [] m) {m : Mem} {x1 : Int32} {x2 : Int32} {x3 : Int32} {x4 : Int32} {x5 : Int32} (hF : B_X8_restsOfChanges_279 N rec_53 rec_138 rec_157 m x1 x2 x3 x4 x5 = some m') : AW K 0 279 [(0, q_r 70), (1, q_i x1), (2, q_i x2), (3, q_i x3), (4, q_i x4), (5, q_i x5)] [] m := by
  unfold B_X8_restsOfChanges_279 at hF
  refine aw_iload hK 5 rfl dX8_restsOfChanges_279 ?_
  refine aw_sub [0, 1, 2, 3, 4] (lv' := [(0, q_r 70), (1, q_i x1), (2, q_i x2), (3, q_i x3), (4, q_i x4)]) rfl ?_
  exact bk_X8_restsOfChanges_281 hK hR hrec_53 hrec_138 hrec_157 hF
def B_X8_restsOfChanges_219 (N : Nat) (rec_53 : Mem → Int32 → Int32 → Option Mem) (rec_138 : Mem → Int32 → Int32 → Int32 → Option Mem) (rec_157 : Mem → Int32 → Int32 → Int32 → Int32 → Option Mem) (m : Mem) (x1 : Int32) (x2 : Int32) (x3 : Int32) (x4 : Int32) (s0 : Int32) : Option Mem :=
  gd (inb x3 (alen 76)) <|
  if (m 76 (ix x3)) = (8 : Int32) then (
    B_X8_restsOfChanges_279 N rec_53 rec_138 rec_157 m x1 x2 x3 x4 s0
  ) else (
    if (m 70 2) ≤ x4 then (
      B_X8_restsOfChanges_279 N rec_53 rec_138 rec_157 m x1 x2 x3 x4 s0
    ) else (
      gd (inb x3 (alen 79)) <|
      gd (inb (((32 : Int32) * (x4 + (1 : Int32))) + (m 79 (ix x3))) (alen 99)) <|
      cal (F_X8_change N m x3 x4) fun r32 m31 =>
      cal (F_X8_plus N m31 (m 99 (ix (((32 : Int32) * (x4 + (1 : Int32))) + (m 79 (ix x3))))) r32) fun r35 m34 =>
      B_X8_restsOfChanges_281 N rec_53 rec_138 rec_157 m34 x1 x2 x3 x4 (P_X8_lesser s0 r35)
    )
  )
set_option maxRecDepth 100000 in
set_option maxHeartbeats 4000000 in
theorem bk_X8_restsOfChanges_219 {N : Nat} {K : KT} {m' : Mem} {rec_53 : Mem → Int32 → Int32 → Option Mem} {rec_138 : Mem → Int32 → Int32 → Int32 → Option Mem} {rec_157 : Mem → Int32 → Int32 → Int32 → Int32 → Option Mem} (hK : KOK K cX8_restsOfChanges 6 RX8 wsX8_restsOfChanges 1 0 22) (hR : KRet K none none m') (hrec_53 : ∀ {m : Mem} {x1 : Int32} {x2 : Int32}, rec_53 m x1 x2 = some m' → AW K 0 53 [(0, q_r 70), (1, q_i x1), (2, q_i x2)] [] m) (hrec_138 : ∀ {m : Mem} {x1 : Int32} {x2 : Int32} {x3 : Int32}, rec_138 m x1 x2 x3 = some m' → AW K 0 138 [(0, q_r 70), (1, q_i x1), (2, q_i x2), (3, q_i x3)] [] m) (hrec_157 : ∀ {m : Mem} {x1 : Int32} {x2 : Int32} {x3 : Int32} {x4 : Int32}, rec_157 m x1 x2 x3 x4 = some m' → AW K 0 157 [(0, q_r 70), (1, q_i x1), (2, q_i x2), (3, q_i x3), (4, q_i x4)] [] m) {m : Mem} {x1 : Int32} {x2 : Int32} {x3 : Int32} {x4 : Int32} {s0 : Int32} (hF : B_X8_restsOfChanges_219 N rec_53 rec_138 rec_157 m x1 x2 x3 x4 s0 = some m') : AW K 0 219 [(0, q_r 70), (1, q_i x1), (2, q_i x2), (3, q_i x3), (4, q_i x4)] [q_i s0] m := by
  unfold B_X8_restsOfChanges_219 at hF
  refine aw_istore hK [(5, q_i s0), (0, q_r 70), (1, q_i x1), (2, q_i x2), (3, q_i x3), (4, q_i x4)] (by decide) rfl dX8_restsOfChanges_219 ?_
  refine aw_aload_n hK 1 rfl dX8_restsOfChanges_221 ?_
  refine gf_8_7 hK rfl (76) rfl (List.mem_of_getElem? (i := 5) rfl) dX8_restsOfChanges_222 ?_
  refine aw_iload_n hK 4 rfl dX8_restsOfChanges_225 ?_
  obtain ⟨g27, hF⟩ := gd_some hF
  refine aw_iald hK rfl g27 dX8_restsOfChanges_226 ?_
  refine aw_bipush hK (8) rfl dX8_restsOfChanges_227 ?_
  refine aw_icmp_eq hK 279 rfl dX8_restsOfChanges_229 (fun hc => ?_) (fun hc => ?_)
  · have hF := if_t hF hc
    refine aw_sub [1, 2, 3, 4, 5, 0] (lv' := [(0, q_r 70), (1, q_i x1), (2, q_i x2), (3, q_i x3), (4, q_i x4), (5, q_i s0)]) rfl ?_
    exact bk_X8_restsOfChanges_279 hK hR hrec_53 hrec_138 hrec_157 hF
  · have hF := if_f hF hc
    refine aw_iload hK 5 rfl dX8_restsOfChanges_232 ?_
    refine aw_aload_n hK 1 rfl dX8_restsOfChanges_234 ?_
    refine gf_8_2 hK rfl (List.mem_of_getElem? (i := 2) rfl) dX8_restsOfChanges_235 ?_
    refine aw_icmp_ge hK 279 rfl dX8_restsOfChanges_238 (fun hc => ?_) (fun hc => ?_)
    · have hF := if_t hF hc
      refine aw_sub [1, 2, 3, 4, 5, 0] (lv' := [(0, q_r 70), (1, q_i x1), (2, q_i x2), (3, q_i x3), (4, q_i x4), (5, q_i s0)]) rfl ?_
      exact bk_X8_restsOfChanges_279 hK hR hrec_53 hrec_138 hrec_157 hF
    · have hF := if_f hF hc
      refine aw_iload hK 0 rfl dX8_restsOfChanges_241 ?_
      refine aw_aload_n hK 1 rfl dX8_restsOfChanges_243 ?_
      refine aw_aload_n hK 1 rfl dX8_restsOfChanges_244 ?_
      refine gf_8_36 hK rfl (99) rfl (List.mem_of_getElem? (i := 1) rfl) dX8_restsOfChanges_245 ?_
      refine aw_bipush hK (32) rfl dX8_restsOfChanges_248 ?_
      refine aw_iload hK 5 rfl dX8_restsOfChanges_250 ?_
      refine aw_iconst hK (1) rfl dX8_restsOfChanges_252 ?_
      refine aw_iadd hK dX8_restsOfChanges_253 ?_
      refine aw_imul hK dX8_restsOfChanges_254 ?_
      refine aw_aload_n hK 1 rfl dX8_restsOfChanges_255 ?_
      refine gf_8_10 hK rfl (79) rfl (List.mem_of_getElem? (i := 6) rfl) dX8_restsOfChanges_256 ?_
      refine aw_iload_n hK 4 rfl dX8_restsOfChanges_259 ?_
      obtain ⟨g28, hF⟩ := gd_some hF
      refine aw_iald hK rfl g28 dX8_restsOfChanges_260 ?_
      refine aw_iadd hK dX8_restsOfChanges_261 ?_
      obtain ⟨g29, hF⟩ := gd_some hF
      refine aw_iald hK rfl g29 dX8_restsOfChanges_262 ?_
      refine aw_aload_n hK 1 rfl dX8_restsOfChanges_263 ?_
      refine aw_iload_n hK 4 rfl dX8_restsOfChanges_264 ?_
      refine aw_iload hK 5 rfl dX8_restsOfChanges_265 ?_
      obtain ⟨r32, m31, h30, hF⟩ := cal_some hF
      refine aw_cv hK 8 (as := [q_i x3, q_i x4]) (tr_X8_change h30) gX8_restsOfChanges_X8_change rfl rfl rfl (by decide) (na := 2) (by decide +kernel) rfl ⟨by decide, by decide⟩ (Nat.zero_le _) (Nat.le_of_ble_eq_true rfl) dX8_restsOfChanges_267 ?_
      obtain ⟨r35, m34, h33, hF⟩ := cal_some hF
      refine aw_cv hK 8 (as := [q_i (m 99 (ix (((32 : Int32) * (x4 + (1 : Int32))) + (m 79 (ix x3))))), q_i r32]) (tr_X8_plus h33) gX8_restsOfChanges_X8_plus rfl rfl rfl (by decide) (na := 2) (by decide +kernel) rfl ⟨by decide, by decide⟩ (Nat.zero_le _) (Nat.le_of_ble_eq_true rfl) dX8_restsOfChanges_270 ?_
      refine aw_cs hK (as := [q_i s0, q_i r35]) (trp_X8_lesser s0 r35 _) gX8_restsOfChanges_X8_lesser rfl (na := 2) (by decide +kernel) rfl ⟨by decide, by decide⟩ (Nat.zero_le _) (Nat.le_of_ble_eq_true rfl) dX8_restsOfChanges_273 ?_
      refine aw_goto hK 281 rfl dX8_restsOfChanges_276 ?_
      refine aw_sub [1, 2, 3, 4, 5] (lv' := [(0, q_r 70), (1, q_i x1), (2, q_i x2), (3, q_i x3), (4, q_i x4)]) rfl ?_
      exact bk_X8_restsOfChanges_281 hK hR hrec_53 hrec_138 hrec_157 hF
def S_X8_restsOfChanges_157 (N : Nat) (rec_53 : Mem → Int32 → Int32 → Option Mem) (rec_138 : Mem → Int32 → Int32 → Int32 → Option Mem) (rec_157 : Mem → Int32 → Int32 → Int32 → Int32 → Option Mem) (m : Mem) (x1 : Int32) (x2 : Int32) (x3 : Int32) (x4 : Int32) : Option Mem :=
  if (m 70 2) < x4 then (
    bnd (x3 + (1 : Int32)) fun y18 =>
    rec_138 m x1 x2 y18
  ) else (
    gd (inb x3 (alen 76)) <|
    if (m 76 (ix x3)) = (8 : Int32) then (
      gd (inb x3 (alen 79)) <|
      gd (inb (((32 : Int32) * x4) + (m 79 (ix x3))) (alen 99)) <|
      B_X8_restsOfChanges_219 N rec_53 rec_138 rec_157 m x1 x2 x3 x4 (m 99 (ix (((32 : Int32) * x4) + (m 79 (ix x3)))))
    ) else (
      gd (inb x3 (alen 79)) <|
      gd (inb (((32 : Int32) * x4) + (m 79 (ix x3))) (alen 99)) <|
      cal (F_X8_plus N m (m 99 (ix (((32 : Int32) * x4) + (m 79 (ix x3))))) (1 : Int32)) fun r24 m23 =>
      B_X8_restsOfChanges_219 N rec_53 rec_138 rec_157 m23 x1 x2 x3 x4 r24
    )
  )
def L_X8_restsOfChanges_157 (N : Nat) (rec_53 : Mem → Int32 → Int32 → Option Mem) (rec_138 : Mem → Int32 → Int32 → Int32 → Option Mem) : Nat → Mem → Int32 → Int32 → Int32 → Int32 → Option Mem
  | 0 => fun _ _ _ _ _ => none
  | f + 1 => S_X8_restsOfChanges_157 N rec_53 rec_138 (L_X8_restsOfChanges_157 N rec_53 rec_138 f)
set_option maxRecDepth 100000 in
set_option maxHeartbeats 4000000 in
theorem lp_X8_restsOfChanges_157 {N : Nat} {K : KT} {m' : Mem} {rec_53 : Mem → Int32 → Int32 → Option Mem} {rec_138 : Mem → Int32 → Int32 → Int32 → Option Mem} (hK : KOK K cX8_restsOfChanges 6 RX8 wsX8_restsOfChanges 1 0 22) (hR : KRet K none none m') (hrec_53 : ∀ {m : Mem} {x1 : Int32} {x2 : Int32}, rec_53 m x1 x2 = some m' → AW K 0 53 [(0, q_r 70), (1, q_i x1), (2, q_i x2)] [] m) (hrec_138 : ∀ {m : Mem} {x1 : Int32} {x2 : Int32} {x3 : Int32}, rec_138 m x1 x2 x3 = some m' → AW K 0 138 [(0, q_r 70), (1, q_i x1), (2, q_i x2), (3, q_i x3)] [] m) : ∀ (f : Nat) {m : Mem} {x1 : Int32} {x2 : Int32} {x3 : Int32} {x4 : Int32}, L_X8_restsOfChanges_157 N rec_53 rec_138 f m x1 x2 x3 x4 = some m' → AW K 0 157 [(0, q_r 70), (1, q_i x1), (2, q_i x2), (3, q_i x3), (4, q_i x4)] [] m := by
  intro f
  induction f with
  | zero => intro m x1 x2 x3 x4 hF; cases hF
  | succ f hrec_157 =>
    intro m x1 x2 x3 x4 hF
    have hF : S_X8_restsOfChanges_157 N rec_53 rec_138 (L_X8_restsOfChanges_157 N rec_53 rec_138 f) m x1 x2 x3 x4 = some m' := hF
    unfold S_X8_restsOfChanges_157 at hF
    refine aw_iload hK 4 rfl dX8_restsOfChanges_157 ?_
    refine aw_aload_n hK 0 rfl dX8_restsOfChanges_159 ?_
    refine gf_8_2 hK rfl (List.mem_of_getElem? (i := 2) rfl) dX8_restsOfChanges_160 ?_
    refine aw_icmp_gt hK 360 rfl dX8_restsOfChanges_163 (fun hc => ?_) (fun hc => ?_)
    · have hF := if_t hF hc
      obtain ⟨y18, hy18, hF⟩ := bnd_some hF
      refine aw_iinc hK (cz := 1) 3 [(3, q_i y18), (0, q_r 70), (1, q_i x1), (2, q_i x2), (4, q_i x4)] (by decide) rfl rfl hy18 rfl dX8_restsOfChanges_360 ?_
      refine aw_goto hK 138 rfl dX8_restsOfChanges_363 ?_
      refine aw_sub [1, 2, 3, 0] (lv' := [(0, q_r 70), (1, q_i x1), (2, q_i x2), (3, q_i y18)]) rfl ?_
      exact hrec_138 hF
    · have hF := if_f hF hc
      refine aw_aload_n hK 0 rfl dX8_restsOfChanges_166 ?_
      refine gf_8_7 hK rfl (76) rfl (List.mem_of_getElem? (i := 5) rfl) dX8_restsOfChanges_167 ?_
      refine aw_iload_n hK 3 rfl dX8_restsOfChanges_170 ?_
      obtain ⟨g19, hF⟩ := gd_some hF
      refine aw_iald hK rfl g19 dX8_restsOfChanges_171 ?_
      refine aw_bipush hK (8) rfl dX8_restsOfChanges_172 ?_
      refine aw_icmp_ne hK 197 rfl dX8_restsOfChanges_174 (fun hc => ?_) (fun hc => ?_)
      · have hF := if_f hF hc
        refine aw_aload_n hK 0 rfl dX8_restsOfChanges_197 ?_
        refine aw_aload_n hK 0 rfl dX8_restsOfChanges_198 ?_
        refine gf_8_36 hK rfl (99) rfl (List.mem_of_getElem? (i := 1) rfl) dX8_restsOfChanges_199 ?_
        refine aw_bipush hK (32) rfl dX8_restsOfChanges_202 ?_
        refine aw_iload hK 4 rfl dX8_restsOfChanges_204 ?_
        refine aw_imul hK dX8_restsOfChanges_206 ?_
        refine aw_aload_n hK 0 rfl dX8_restsOfChanges_207 ?_
        refine gf_8_10 hK rfl (79) rfl (List.mem_of_getElem? (i := 6) rfl) dX8_restsOfChanges_208 ?_
        refine aw_iload_n hK 3 rfl dX8_restsOfChanges_211 ?_
        obtain ⟨g20, hF⟩ := gd_some hF
        refine aw_iald hK rfl g20 dX8_restsOfChanges_212 ?_
        refine aw_iadd hK dX8_restsOfChanges_213 ?_
        obtain ⟨g21, hF⟩ := gd_some hF
        refine aw_iald hK rfl g21 dX8_restsOfChanges_214 ?_
        refine aw_iconst hK (1) rfl dX8_restsOfChanges_215 ?_
        obtain ⟨r24, m23, h22, hF⟩ := cal_some hF
        refine aw_cv hK 8 (as := [q_i (m 99 (ix (((32 : Int32) * x4) + (m 79 (ix x3))))), q_i (1 : Int32)]) (tr_X8_plus h22) gX8_restsOfChanges_X8_plus rfl rfl rfl (by decide) (na := 2) (by decide +kernel) rfl ⟨by decide, by decide⟩ (Nat.zero_le _) (Nat.le_of_ble_eq_true rfl) dX8_restsOfChanges_216 ?_
        refine aw_sub [0, 1, 2, 3, 4] (lv' := [(0, q_r 70), (1, q_i x1), (2, q_i x2), (3, q_i x3), (4, q_i x4)]) rfl ?_
        exact bk_X8_restsOfChanges_219 hK hR hrec_53 hrec_138 hrec_157 hF
      · have hF := if_t hF hc
        refine aw_aload_n hK 0 rfl dX8_restsOfChanges_177 ?_
        refine gf_8_36 hK rfl (99) rfl (List.mem_of_getElem? (i := 1) rfl) dX8_restsOfChanges_178 ?_
        refine aw_bipush hK (32) rfl dX8_restsOfChanges_181 ?_
        refine aw_iload hK 4 rfl dX8_restsOfChanges_183 ?_
        refine aw_imul hK dX8_restsOfChanges_185 ?_
        refine aw_aload_n hK 0 rfl dX8_restsOfChanges_186 ?_
        refine gf_8_10 hK rfl (79) rfl (List.mem_of_getElem? (i := 6) rfl) dX8_restsOfChanges_187 ?_
        refine aw_iload_n hK 3 rfl dX8_restsOfChanges_190 ?_
        obtain ⟨g25, hF⟩ := gd_some hF
        refine aw_iald hK rfl g25 dX8_restsOfChanges_191 ?_
        refine aw_iadd hK dX8_restsOfChanges_192 ?_
        obtain ⟨g26, hF⟩ := gd_some hF
        refine aw_iald hK rfl g26 dX8_restsOfChanges_193 ?_
        refine aw_goto hK 219 rfl dX8_restsOfChanges_194 ?_
        refine aw_sub [0, 1, 2, 3, 4] (lv' := [(0, q_r 70), (1, q_i x1), (2, q_i x2), (3, q_i x3), (4, q_i x4)]) rfl ?_
        exact bk_X8_restsOfChanges_219 hK hR hrec_53 hrec_138 hrec_157 hF
def S_X8_restsOfChanges_138 (N : Nat) (rec_53 : Mem → Int32 → Int32 → Option Mem) (rec_138 : Mem → Int32 → Int32 → Int32 → Option Mem) (m : Mem) (x1 : Int32) (x2 : Int32) (x3 : Int32) : Option Mem :=
  gd (inb x1 (alen 74)) <|
  if (((160 : Int32) * x1) + (m 74 (ix x1))) ≤ x3 then (
    rec_53 m x1 x2
  ) else (
    L_X8_restsOfChanges_157 N rec_53 rec_138 N m x1 x2 x3 (0 : Int32)
  )
def L_X8_restsOfChanges_138 (N : Nat) (rec_53 : Mem → Int32 → Int32 → Option Mem) : Nat → Mem → Int32 → Int32 → Int32 → Option Mem
  | 0 => fun _ _ _ _ => none
  | f + 1 => S_X8_restsOfChanges_138 N rec_53 (L_X8_restsOfChanges_138 N rec_53 f)
set_option maxRecDepth 100000 in
set_option maxHeartbeats 4000000 in
theorem lp_X8_restsOfChanges_138 {N : Nat} {K : KT} {m' : Mem} {rec_53 : Mem → Int32 → Int32 → Option Mem} (hK : KOK K cX8_restsOfChanges 6 RX8 wsX8_restsOfChanges 1 0 22) (hR : KRet K none none m') (hrec_53 : ∀ {m : Mem} {x1 : Int32} {x2 : Int32}, rec_53 m x1 x2 = some m' → AW K 0 53 [(0, q_r 70), (1, q_i x1), (2, q_i x2)] [] m) : ∀ (f : Nat) {m : Mem} {x1 : Int32} {x2 : Int32} {x3 : Int32}, L_X8_restsOfChanges_138 N rec_53 f m x1 x2 x3 = some m' → AW K 0 138 [(0, q_r 70), (1, q_i x1), (2, q_i x2), (3, q_i x3)] [] m := by
  intro f
  induction f with
  | zero => intro m x1 x2 x3 hF; cases hF
  | succ f hrec_138 =>
    intro m x1 x2 x3 hF
    have hF : S_X8_restsOfChanges_138 N rec_53 (L_X8_restsOfChanges_138 N rec_53 f) m x1 x2 x3 = some m' := hF
    unfold S_X8_restsOfChanges_138 at hF
    refine aw_iload_n hK 3 rfl dX8_restsOfChanges_138 ?_
    refine aw_sipush hK (160) rfl dX8_restsOfChanges_139 ?_
    refine aw_iload_n hK 1 rfl dX8_restsOfChanges_142 ?_
    refine aw_imul hK dX8_restsOfChanges_143 ?_
    refine aw_aload_n hK 0 rfl dX8_restsOfChanges_144 ?_
    refine gf_8_5 hK rfl (74) rfl (List.mem_of_getElem? (i := 4) rfl) dX8_restsOfChanges_145 ?_
    refine aw_iload_n hK 1 rfl dX8_restsOfChanges_148 ?_
    obtain ⟨g17, hF⟩ := gd_some hF
    refine aw_iald hK rfl g17 dX8_restsOfChanges_149 ?_
    refine aw_iadd hK dX8_restsOfChanges_150 ?_
    refine aw_icmp_ge hK 366 rfl dX8_restsOfChanges_151 (fun hc => ?_) (fun hc => ?_)
    · have hF := if_t hF hc
      refine aw_goto hK 53 rfl dX8_restsOfChanges_366 ?_
      refine aw_sub [0, 1, 2] (lv' := [(0, q_r 70), (1, q_i x1), (2, q_i x2)]) rfl ?_
      exact hrec_53 hF
    · have hF := if_f hF hc
      refine aw_iconst hK (0) rfl dX8_restsOfChanges_154 ?_
      refine aw_istore hK [(4, q_i (0 : Int32)), (0, q_r 70), (1, q_i x1), (2, q_i x2), (3, q_i x3)] (by decide) rfl dX8_restsOfChanges_155 ?_
      refine aw_sub [1, 2, 3, 4, 0] (lv' := [(0, q_r 70), (1, q_i x1), (2, q_i x2), (3, q_i x3), (4, q_i (0 : Int32))]) rfl ?_
      exact lp_X8_restsOfChanges_157 hK hR hrec_53 hrec_138 _ hF
def B_X8_restsOfChanges_108 (N : Nat) (rec_53 : Mem → Int32 → Int32 → Option Mem) (rec_61 : Mem → Int32 → Int32 → Int32 → Option Mem) (m : Mem) (x1 : Int32) (x3 : Int32) (x4 : Int32) (s0 : Int32) : Option Mem :=
  gd (inb x3 (alen 99)) <|
  gd (inb x3 (alen 99)) <|
  bnd (mup m 99 (ix x3) (P_X8_lesser x4 (m 99 (ix x3)))) fun m15 =>
  bnd (x3 + (1 : Int32)) fun y16 =>
  rec_61 m15 x1 s0 y16
set_option maxRecDepth 100000 in
set_option maxHeartbeats 4000000 in
theorem bk_X8_restsOfChanges_108 {N : Nat} {K : KT} {m' : Mem} {rec_53 : Mem → Int32 → Int32 → Option Mem} {rec_61 : Mem → Int32 → Int32 → Int32 → Option Mem} (hK : KOK K cX8_restsOfChanges 6 RX8 wsX8_restsOfChanges 1 0 22) (hR : KRet K none none m') (hrec_53 : ∀ {m : Mem} {x1 : Int32} {x2 : Int32}, rec_53 m x1 x2 = some m' → AW K 0 53 [(0, q_r 70), (1, q_i x1), (2, q_i x2)] [] m) (hrec_61 : ∀ {m : Mem} {x1 : Int32} {x2 : Int32} {x3 : Int32}, rec_61 m x1 x2 x3 = some m' → AW K 0 61 [(0, q_r 70), (1, q_i x1), (2, q_i x2), (3, q_i x3)] [] m) {m : Mem} {x1 : Int32} {x3 : Int32} {x4 : Int32} {s0 : Int32} (hF : B_X8_restsOfChanges_108 N rec_53 rec_61 m x1 x3 x4 s0 = some m') : AW K 0 108 [(0, q_r 70), (1, q_i x1), (3, q_i x3), (4, q_i x4)] [q_i s0] m := by
  unfold B_X8_restsOfChanges_108 at hF
  refine aw_istore_n hK [(2, q_i s0), (0, q_r 70), (1, q_i x1), (3, q_i x3), (4, q_i x4)] (by decide) rfl dX8_restsOfChanges_108 ?_
  refine aw_aload_n hK 1 rfl dX8_restsOfChanges_109 ?_
  refine gf_8_36 hK rfl (99) rfl (List.mem_of_getElem? (i := 1) rfl) dX8_restsOfChanges_110 ?_
  refine aw_iload_n hK 3 rfl dX8_restsOfChanges_113 ?_
  refine aw_iload hK 4 rfl dX8_restsOfChanges_114 ?_
  refine aw_aload_n hK 1 rfl dX8_restsOfChanges_116 ?_
  refine gf_8_36 hK rfl (99) rfl (List.mem_of_getElem? (i := 1) rfl) dX8_restsOfChanges_117 ?_
  refine aw_iload_n hK 3 rfl dX8_restsOfChanges_120 ?_
  obtain ⟨g13, hF⟩ := gd_some hF
  refine aw_iald hK rfl g13 dX8_restsOfChanges_121 ?_
  refine aw_cs hK (as := [q_i x4, q_i (m 99 (ix x3))]) (trp_X8_lesser x4 (m 99 (ix x3)) _) gX8_restsOfChanges_X8_lesser rfl (na := 2) (by decide +kernel) rfl ⟨by decide, by decide⟩ (Nat.zero_le _) (Nat.le_of_ble_eq_true rfl) dX8_restsOfChanges_122 ?_
  obtain ⟨g14, hF⟩ := gd_some hF
  refine aw_iast hK rfl g14 dX8_restsOfChanges_125 ?_
  obtain ⟨m15, hm15, hF⟩ := bnd_some hF
  refine aw_mm hm15 ?_
  obtain ⟨y16, hy16, hF⟩ := bnd_some hF
  refine aw_iinc hK (cz := 1) 3 [(3, q_i y16), (2, q_i s0), (0, q_r 70), (1, q_i x1), (4, q_i x4)] (by decide) rfl rfl hy16 rfl dX8_restsOfChanges_126 ?_
  refine aw_goto hK 61 rfl dX8_restsOfChanges_129 ?_
  refine aw_sub [2, 3, 1, 0] (lv' := [(0, q_r 70), (1, q_i x1), (2, q_i s0), (3, q_i y16)]) rfl ?_
  exact hrec_61 hF
def B_X8_restsOfChanges_103 (N : Nat) (rec_53 : Mem → Int32 → Int32 → Option Mem) (rec_61 : Mem → Int32 → Int32 → Int32 → Option Mem) (m : Mem) (x1 : Int32) (x3 : Int32) (x4 : Int32) : Option Mem :=
  B_X8_restsOfChanges_108 N rec_53 rec_61 m x1 x3 x4 (1 : Int32)
set_option maxRecDepth 100000 in
set_option maxHeartbeats 4000000 in
theorem bk_X8_restsOfChanges_103 {N : Nat} {K : KT} {m' : Mem} {rec_53 : Mem → Int32 → Int32 → Option Mem} {rec_61 : Mem → Int32 → Int32 → Int32 → Option Mem} (hK : KOK K cX8_restsOfChanges 6 RX8 wsX8_restsOfChanges 1 0 22) (hR : KRet K none none m') (hrec_53 : ∀ {m : Mem} {x1 : Int32} {x2 : Int32}, rec_53 m x1 x2 = some m' → AW K 0 53 [(0, q_r 70), (1, q_i x1), (2, q_i x2)] [] m) (hrec_61 : ∀ {m : Mem} {x1 : Int32} {x2 : Int32} {x3 : Int32}, rec_61 m x1 x2 x3 = some m' → AW K 0 61 [(0, q_r 70), (1, q_i x1), (2, q_i x2), (3, q_i x3)] [] m) {m : Mem} {x1 : Int32} {x3 : Int32} {x4 : Int32} (hF : B_X8_restsOfChanges_103 N rec_53 rec_61 m x1 x3 x4 = some m') : AW K 0 103 [(0, q_r 70), (1, q_i x1), (3, q_i x3), (4, q_i x4)] [] m := by
  unfold B_X8_restsOfChanges_103 at hF
  refine aw_iconst hK (1) rfl dX8_restsOfChanges_103 ?_
  refine aw_goto hK 108 rfl dX8_restsOfChanges_104 ?_
  refine aw_sub [0, 1, 2, 3] (lv' := [(0, q_r 70), (1, q_i x1), (3, q_i x3), (4, q_i x4)]) rfl ?_
  exact bk_X8_restsOfChanges_108 hK hR hrec_53 hrec_61 hF
def S_X8_restsOfChanges_61 (N : Nat) (rec_53 : Mem → Int32 → Int32 → Option Mem) (rec_61 : Mem → Int32 → Int32 → Int32 → Option Mem) (m : Mem) (x1 : Int32) (x2 : Int32) (x3 : Int32) : Option Mem :=
  if ((32 : Int32) * (m 70 2)) ≤ x3 then (
    bnd ((160 : Int32) * x1) fun y7 =>
    L_X8_restsOfChanges_138 N rec_53 N m x1 x2 y7
  ) else (
    gd (inb (x3 + (32 : Int32)) (alen 99)) <|
    cal (F_X8_plus N m (m 99 (ix (x3 + (32 : Int32)))) (1 : Int32)) fun r11 m10 =>
    if x2 = (0 : Int32) then (
      gd (inb x3 (alen 99)) <|
      if (m10 99 (ix x3)) ≤ r11 then (
        B_X8_restsOfChanges_108 N rec_53 rec_61 m10 x1 x3 r11 (0 : Int32)
      ) else (
        B_X8_restsOfChanges_103 N rec_53 rec_61 m10 x1 x3 r11
      )
    ) else (
      B_X8_restsOfChanges_103 N rec_53 rec_61 m10 x1 x3 r11
    )
  )
def L_X8_restsOfChanges_61 (N : Nat) (rec_53 : Mem → Int32 → Int32 → Option Mem) : Nat → Mem → Int32 → Int32 → Int32 → Option Mem
  | 0 => fun _ _ _ _ => none
  | f + 1 => S_X8_restsOfChanges_61 N rec_53 (L_X8_restsOfChanges_61 N rec_53 f)
set_option maxRecDepth 100000 in
set_option maxHeartbeats 4000000 in
theorem lp_X8_restsOfChanges_61 {N : Nat} {K : KT} {m' : Mem} {rec_53 : Mem → Int32 → Int32 → Option Mem} (hK : KOK K cX8_restsOfChanges 6 RX8 wsX8_restsOfChanges 1 0 22) (hR : KRet K none none m') (hrec_53 : ∀ {m : Mem} {x1 : Int32} {x2 : Int32}, rec_53 m x1 x2 = some m' → AW K 0 53 [(0, q_r 70), (1, q_i x1), (2, q_i x2)] [] m) : ∀ (f : Nat) {m : Mem} {x1 : Int32} {x2 : Int32} {x3 : Int32}, L_X8_restsOfChanges_61 N rec_53 f m x1 x2 x3 = some m' → AW K 0 61 [(0, q_r 70), (1, q_i x1), (2, q_i x2), (3, q_i x3)] [] m := by
  intro f
  induction f with
  | zero => intro m x1 x2 x3 hF; cases hF
  | succ f hrec_61 =>
    intro m x1 x2 x3 hF
    have hF : S_X8_restsOfChanges_61 N rec_53 (L_X8_restsOfChanges_61 N rec_53 f) m x1 x2 x3 = some m' := hF
    unfold S_X8_restsOfChanges_61 at hF
    refine aw_iload_n hK 3 rfl dX8_restsOfChanges_61 ?_
    refine aw_bipush hK (32) rfl dX8_restsOfChanges_62 ?_
    refine aw_aload_n hK 0 rfl dX8_restsOfChanges_64 ?_
    refine gf_8_2 hK rfl (List.mem_of_getElem? (i := 2) rfl) dX8_restsOfChanges_65 ?_
    refine aw_imul hK dX8_restsOfChanges_68 ?_
    refine aw_icmp_ge hK 132 rfl dX8_restsOfChanges_69 (fun hc => ?_) (fun hc => ?_)
    · have hF := if_t hF hc
      refine aw_sipush hK (160) rfl dX8_restsOfChanges_132 ?_
      refine aw_iload_n hK 1 rfl dX8_restsOfChanges_135 ?_
      refine aw_imul hK dX8_restsOfChanges_136 ?_
      obtain ⟨y7, hy7, hF⟩ := bnd_some hF
      refine aw_nm hy7 ?_
      refine aw_istore_n hK [(3, q_i y7), (0, q_r 70), (1, q_i x1), (2, q_i x2)] (by decide) rfl dX8_restsOfChanges_137 ?_
      refine aw_sub [1, 2, 3, 0] (lv' := [(0, q_r 70), (1, q_i x1), (2, q_i x2), (3, q_i y7)]) rfl ?_
      exact lp_X8_restsOfChanges_138 hK hR hrec_53 _ hF
    · have hF := if_f hF hc
      refine aw_aload_n hK 0 rfl dX8_restsOfChanges_72 ?_
      refine aw_aload_n hK 0 rfl dX8_restsOfChanges_73 ?_
      refine gf_8_36 hK rfl (99) rfl (List.mem_of_getElem? (i := 1) rfl) dX8_restsOfChanges_74 ?_
      refine aw_iload_n hK 3 rfl dX8_restsOfChanges_77 ?_
      refine aw_bipush hK (32) rfl dX8_restsOfChanges_78 ?_
      refine aw_iadd hK dX8_restsOfChanges_80 ?_
      obtain ⟨g8, hF⟩ := gd_some hF
      refine aw_iald hK rfl g8 dX8_restsOfChanges_81 ?_
      refine aw_iconst hK (1) rfl dX8_restsOfChanges_82 ?_
      obtain ⟨r11, m10, h9, hF⟩ := cal_some hF
      refine aw_cv hK 8 (as := [q_i (m 99 (ix (x3 + (32 : Int32)))), q_i (1 : Int32)]) (tr_X8_plus h9) gX8_restsOfChanges_X8_plus rfl rfl rfl (by decide) (na := 2) (by decide +kernel) rfl ⟨by decide, by decide⟩ (Nat.zero_le _) (Nat.le_of_ble_eq_true rfl) dX8_restsOfChanges_83 ?_
      refine aw_istore hK [(4, q_i r11), (0, q_r 70), (1, q_i x1), (2, q_i x2), (3, q_i x3)] (by decide) rfl dX8_restsOfChanges_86 ?_
      refine aw_iload_n hK 3 rfl dX8_restsOfChanges_88 ?_
      refine aw_if_ne hK 103 rfl dX8_restsOfChanges_89 (fun hc => ?_) (fun hc => ?_)
      · have hF := if_f hF hc
        refine aw_sub [1, 2, 4, 0] (lv' := [(0, q_r 70), (1, q_i x1), (3, q_i x3), (4, q_i r11)]) rfl ?_
        exact bk_X8_restsOfChanges_103 hK hR hrec_53 hrec_61 hF
      · have hF := if_t hF hc
        refine aw_iload hK 0 rfl dX8_restsOfChanges_92 ?_
        refine aw_aload_n hK 1 rfl dX8_restsOfChanges_94 ?_
        refine gf_8_36 hK rfl (99) rfl (List.mem_of_getElem? (i := 1) rfl) dX8_restsOfChanges_95 ?_
        refine aw_iload_n hK 4 rfl dX8_restsOfChanges_98 ?_
        obtain ⟨g12, hF⟩ := gd_some hF
        refine aw_iald hK rfl g12 dX8_restsOfChanges_99 ?_
        refine aw_icmp_ge hK 107 rfl dX8_restsOfChanges_100 (fun hc => ?_) (fun hc => ?_)
        · have hF := if_t hF hc
          refine aw_iconst hK (0) rfl dX8_restsOfChanges_107 ?_
          refine aw_sub [1, 2, 4, 0] (lv' := [(0, q_r 70), (1, q_i x1), (3, q_i x3), (4, q_i r11)]) rfl ?_
          exact bk_X8_restsOfChanges_108 hK hR hrec_53 hrec_61 hF
        · have hF := if_f hF hc
          refine aw_sub [1, 2, 4, 0] (lv' := [(0, q_r 70), (1, q_i x1), (3, q_i x3), (4, q_i r11)]) rfl ?_
          exact bk_X8_restsOfChanges_103 hK hR hrec_53 hrec_61 hF
def S_X8_restsOfChanges_53 (N : Nat) (rec_53 : Mem → Int32 → Int32 → Option Mem) (m : Mem) (x1 : Int32) (x2 : Int32) : Option Mem :=
  if x2 = (0 : Int32) then (
    some m
  ) else (
    L_X8_restsOfChanges_61 N rec_53 N m x1 (0 : Int32) (0 : Int32)
  )
def L_X8_restsOfChanges_53 (N : Nat) : Nat → Mem → Int32 → Int32 → Option Mem
  | 0 => fun _ _ _ => none
  | f + 1 => S_X8_restsOfChanges_53 N (L_X8_restsOfChanges_53 N f)
set_option maxRecDepth 100000 in
set_option maxHeartbeats 4000000 in
theorem lp_X8_restsOfChanges_53 {N : Nat} {K : KT} {m' : Mem} (hK : KOK K cX8_restsOfChanges 6 RX8 wsX8_restsOfChanges 1 0 22) (hR : KRet K none none m') : ∀ (f : Nat) {m : Mem} {x1 : Int32} {x2 : Int32}, L_X8_restsOfChanges_53 N f m x1 x2 = some m' → AW K 0 53 [(0, q_r 70), (1, q_i x1), (2, q_i x2)] [] m := by
  intro f
  induction f with
  | zero => intro m x1 x2 hF; cases hF
  | succ f hrec_53 =>
    intro m x1 x2 hF
    have hF : S_X8_restsOfChanges_53 N (L_X8_restsOfChanges_53 N f) m x1 x2 = some m' := hF
    unfold S_X8_restsOfChanges_53 at hF
    refine aw_iload_n hK 2 rfl dX8_restsOfChanges_53 ?_
    refine aw_if_eq hK 369 rfl dX8_restsOfChanges_54 (fun hc => ?_) (fun hc => ?_)
    · have hF := if_t hF hc
      obtain rfl := Option.some.inj hF
      exact aw_vret hK hR dX8_restsOfChanges_369
    · have hF := if_f hF hc
      refine aw_iconst hK (0) rfl dX8_restsOfChanges_57 ?_
      refine aw_istore_n hK [(2, q_i (0 : Int32)), (0, q_r 70), (1, q_i x1)] (by decide) rfl dX8_restsOfChanges_58 ?_
      refine aw_iconst hK (0) rfl dX8_restsOfChanges_59 ?_
      refine aw_istore_n hK [(3, q_i (0 : Int32)), (2, q_i (0 : Int32)), (0, q_r 70), (1, q_i x1)] (by decide) rfl dX8_restsOfChanges_60 ?_
      refine aw_sub [2, 3, 1, 0] (lv' := [(0, q_r 70), (1, q_i x1), (2, q_i (0 : Int32)), (3, q_i (0 : Int32))]) rfl ?_
      exact lp_X8_restsOfChanges_61 hK hR hrec_53 _ hF
def B_X8_restsOfChanges_44 (N : Nat) (rec_2 : Mem → Int32 → Int32 → Option Mem) (m : Mem) (x1 : Int32) (x2 : Int32) (s0 : Int32) (s1 : Int32) : Option Mem :=
  gd (inb s1 (alen 99)) <|
  bnd (mup m 99 (ix s1) s0) fun m5 =>
  bnd (x2 + (1 : Int32)) fun y6 =>
  rec_2 m5 x1 y6
set_option maxRecDepth 100000 in
set_option maxHeartbeats 4000000 in
theorem bk_X8_restsOfChanges_44 {N : Nat} {K : KT} {m' : Mem} {rec_2 : Mem → Int32 → Int32 → Option Mem} (hK : KOK K cX8_restsOfChanges 6 RX8 wsX8_restsOfChanges 1 0 22) (hR : KRet K none none m') (hrec_2 : ∀ {m : Mem} {x1 : Int32} {x2 : Int32}, rec_2 m x1 x2 = some m' → AW K 0 2 [(0, q_r 70), (1, q_i x1), (2, q_i x2)] [] m) {m : Mem} {x1 : Int32} {x2 : Int32} {s0 : Int32} {s1 : Int32} (hF : B_X8_restsOfChanges_44 N rec_2 m x1 x2 s0 s1 = some m') : AW K 0 44 [(0, q_r 70), (1, q_i x1), (2, q_i x2)] [q_i s0, q_i s1, q_r 99] m := by
  unfold B_X8_restsOfChanges_44 at hF
  obtain ⟨g4, hF⟩ := gd_some hF
  refine aw_iast hK rfl g4 dX8_restsOfChanges_44 ?_
  obtain ⟨m5, hm5, hF⟩ := bnd_some hF
  refine aw_mm hm5 ?_
  obtain ⟨y6, hy6, hF⟩ := bnd_some hF
  refine aw_iinc hK (cz := 1) 2 [(2, q_i y6), (0, q_r 70), (1, q_i x1)] (by decide) rfl rfl hy6 rfl dX8_restsOfChanges_45 ?_
  refine aw_goto hK 2 rfl dX8_restsOfChanges_48 ?_
  refine aw_sub [1, 2, 0] (lv' := [(0, q_r 70), (1, q_i x1), (2, q_i y6)]) rfl ?_
  exact hrec_2 hF
def B_X8_restsOfChanges_41 (N : Nat) (rec_2 : Mem → Int32 → Int32 → Option Mem) (m : Mem) (x1 : Int32) (x2 : Int32) (s0 : Int32) : Option Mem :=
  B_X8_restsOfChanges_44 N rec_2 m x1 x2 (2000000000 : Int32) s0
set_option maxRecDepth 100000 in
set_option maxHeartbeats 4000000 in
theorem bk_X8_restsOfChanges_41 {N : Nat} {K : KT} {m' : Mem} {rec_2 : Mem → Int32 → Int32 → Option Mem} (hK : KOK K cX8_restsOfChanges 6 RX8 wsX8_restsOfChanges 1 0 22) (hR : KRet K none none m') (hrec_2 : ∀ {m : Mem} {x1 : Int32} {x2 : Int32}, rec_2 m x1 x2 = some m' → AW K 0 2 [(0, q_r 70), (1, q_i x1), (2, q_i x2)] [] m) {m : Mem} {x1 : Int32} {x2 : Int32} {s0 : Int32} (hF : B_X8_restsOfChanges_41 N rec_2 m x1 x2 s0 = some m') : AW K 0 41 [(0, q_r 70), (1, q_i x1), (2, q_i x2)] [q_i s0, q_r 99] m := by
  unfold B_X8_restsOfChanges_41 at hF
  refine aw_ldc_w hK (2000000000) (List.mem_of_getElem? (i := 3) rfl) dX8_restsOfChanges_41 ?_
  refine aw_sub [0, 1, 2] (lv' := [(0, q_r 70), (1, q_i x1), (2, q_i x2)]) rfl ?_
  exact bk_X8_restsOfChanges_44 hK hR hrec_2 hF
def S_X8_restsOfChanges_2 (N : Nat) (rec_2 : Mem → Int32 → Int32 → Option Mem) (m : Mem) (x1 : Int32) (x2 : Int32) : Option Mem :=
  if (288 : Int32) ≤ x2 then (
    L_X8_restsOfChanges_53 N N m x1 (1 : Int32)
  ) else (
    if (x2 / (32 : Int32)) = (m 70 2) then (
      cal (F_X8_isEndOf N m x1 (q_rem x2 (32 : Int32))) fun r3 m2 =>
      if r3 = (0 : Int32) then (
        B_X8_restsOfChanges_41 N rec_2 m2 x1 x2 x2
      ) else (
        B_X8_restsOfChanges_44 N rec_2 m2 x1 x2 (0 : Int32) x2
      )
    ) else (
      B_X8_restsOfChanges_41 N rec_2 m x1 x2 x2
    )
  )
def L_X8_restsOfChanges_2 (N : Nat) : Nat → Mem → Int32 → Int32 → Option Mem
  | 0 => fun _ _ _ => none
  | f + 1 => S_X8_restsOfChanges_2 N (L_X8_restsOfChanges_2 N f)
set_option maxRecDepth 100000 in
set_option maxHeartbeats 4000000 in
theorem lp_X8_restsOfChanges_2 {N : Nat} {K : KT} {m' : Mem} (hK : KOK K cX8_restsOfChanges 6 RX8 wsX8_restsOfChanges 1 0 22) (hR : KRet K none none m') : ∀ (f : Nat) {m : Mem} {x1 : Int32} {x2 : Int32}, L_X8_restsOfChanges_2 N f m x1 x2 = some m' → AW K 0 2 [(0, q_r 70), (1, q_i x1), (2, q_i x2)] [] m := by
  intro f
  induction f with
  | zero => intro m x1 x2 hF; cases hF
  | succ f hrec_2 =>
    intro m x1 x2 hF
    have hF : S_X8_restsOfChanges_2 N (L_X8_restsOfChanges_2 N f) m x1 x2 = some m' := hF
    unfold S_X8_restsOfChanges_2 at hF
    refine aw_iload_n hK 2 rfl dX8_restsOfChanges_2 ?_
    refine aw_sipush hK (288) rfl dX8_restsOfChanges_3 ?_
    refine aw_icmp_ge hK 51 rfl dX8_restsOfChanges_6 (fun hc => ?_) (fun hc => ?_)
    · have hF := if_t hF hc
      refine aw_iconst hK (1) rfl dX8_restsOfChanges_51 ?_
      refine aw_istore_n hK [(2, q_i (1 : Int32)), (0, q_r 70), (1, q_i x1)] (by decide) rfl dX8_restsOfChanges_52 ?_
      refine aw_sub [1, 2, 0] (lv' := [(0, q_r 70), (1, q_i x1), (2, q_i (1 : Int32))]) rfl ?_
      exact lp_X8_restsOfChanges_53 hK hR _ hF
    · have hF := if_f hF hc
      refine aw_aload_n hK 0 rfl dX8_restsOfChanges_9 ?_
      refine gf_8_36 hK rfl (99) rfl (List.mem_of_getElem? (i := 1) rfl) dX8_restsOfChanges_10 ?_
      refine aw_iload_n hK 2 rfl dX8_restsOfChanges_13 ?_
      refine aw_iload_n hK 2 rfl dX8_restsOfChanges_14 ?_
      refine aw_bipush hK (32) rfl dX8_restsOfChanges_15 ?_
      refine aw_idiv hK (by decide) dX8_restsOfChanges_17 ?_
      refine aw_aload_n hK 0 rfl dX8_restsOfChanges_18 ?_
      refine gf_8_2 hK rfl (List.mem_of_getElem? (i := 2) rfl) dX8_restsOfChanges_19 ?_
      refine aw_icmp_ne hK 41 rfl dX8_restsOfChanges_22 (fun hc => ?_) (fun hc => ?_)
      · have hF := if_f hF hc
        refine aw_sub [0, 1, 2] (lv' := [(0, q_r 70), (1, q_i x1), (2, q_i x2)]) rfl ?_
        exact bk_X8_restsOfChanges_41 hK hR hrec_2 hF
      · have hF := if_t hF hc
        refine aw_aload_n hK 0 rfl dX8_restsOfChanges_25 ?_
        refine aw_iload_n hK 1 rfl dX8_restsOfChanges_26 ?_
        refine aw_iload_n hK 2 rfl dX8_restsOfChanges_27 ?_
        refine aw_bipush hK (32) rfl dX8_restsOfChanges_28 ?_
        refine aw_irem hK (by decide) dX8_restsOfChanges_30 ?_
        obtain ⟨r3, m2, h1, hF⟩ := cal_some hF
        refine aw_cv hK 8 (as := [q_i x1, q_i (q_rem x2 (32 : Int32))]) (tr_X8_isEndOf h1) gX8_restsOfChanges_X8_isEndOf rfl rfl rfl (by decide) (na := 2) (by decide +kernel) rfl ⟨by decide, by decide⟩ (Nat.zero_le _) (Nat.le_of_ble_eq_true rfl) dX8_restsOfChanges_31 ?_
        refine aw_if_eq hK 41 rfl dX8_restsOfChanges_34 (fun hc => ?_) (fun hc => ?_)
        · have hF := if_t hF hc
          refine aw_sub [0, 1, 2] (lv' := [(0, q_r 70), (1, q_i x1), (2, q_i x2)]) rfl ?_
          exact bk_X8_restsOfChanges_41 hK hR hrec_2 hF
        · have hF := if_f hF hc
          refine aw_iconst hK (0) rfl dX8_restsOfChanges_37 ?_
          refine aw_goto hK 44 rfl dX8_restsOfChanges_38 ?_
          refine aw_sub [0, 1, 2] (lv' := [(0, q_r 70), (1, q_i x1), (2, q_i x2)]) rfl ?_
          exact bk_X8_restsOfChanges_44 hK hR hrec_2 hF
def F_X8_restsOfChanges (N : Nat) (m : Mem) (x1 : Int32) : Option Mem :=
  L_X8_restsOfChanges_2 N N m x1 (0 : Int32)
set_option maxRecDepth 100000 in
set_option maxHeartbeats 4000000 in
theorem tr_X8_restsOfChanges {N : Nat} {m m' : Mem} {x1 : Int32} (hF : F_X8_restsOfChanges N m x1 = some m') : Tr yX8_restsOfChanges wsX8_restsOfChanges 1 22 [q_r 70, q_i x1] m none m' := by
  refine tr_of (bytes := cX8_restsOfChanges) (maxL := 6) (ret := none) (by decide) rfl (Nat.le_of_ble_eq_true rfl) (fun K hK hR => ?_)
  have hK : KOK K cX8_restsOfChanges 6 RX8 wsX8_restsOfChanges 1 0 22 := hK
  show AW K 0 0 [(0, q_r 70), (1, q_i x1)] [] m
  unfold F_X8_restsOfChanges at hF
  refine aw_iconst hK (0) rfl dX8_restsOfChanges_0 ?_
  refine aw_istore_n hK [(2, q_i (0 : Int32)), (0, q_r 70), (1, q_i x1)] (by decide) rfl dX8_restsOfChanges_1 ?_
  refine aw_sub [1, 2, 0] (lv' := [(0, q_r 70), (1, q_i x1), (2, q_i (0 : Int32))]) rfl ?_
  exact lp_X8_restsOfChanges_2 hK hR _ hF
def B_X8_closesChanges_228 (N : Nat) (rec_2 : Mem → Int32 → Int32 → Option Mem) (rec_93 : Mem → Int32 → Int32 → Int32 → Option Mem) (m : Mem) (x1 : Int32) (x2 : Int32) (x3 : Int32) : Option Mem :=
  bnd (x3 + (1 : Int32)) fun y24 =>
  rec_93 m x1 x2 y24
set_option maxRecDepth 100000 in
set_option maxHeartbeats 4000000 in
theorem bk_X8_closesChanges_228 {N : Nat} {K : KT} {m' : Mem} {rec_2 : Mem → Int32 → Int32 → Option Mem} {rec_93 : Mem → Int32 → Int32 → Int32 → Option Mem} (hK : KOK K cX8_closesChanges 6 RX8 wsX8_closesChanges 1 0 22) (hR : KRet K none none m') (hrec_2 : ∀ {m : Mem} {x1 : Int32} {x2 : Int32}, rec_2 m x1 x2 = some m' → AW K 0 2 [(0, q_r 70), (1, q_i x1), (2, q_i x2)] [] m) (hrec_93 : ∀ {m : Mem} {x1 : Int32} {x2 : Int32} {x3 : Int32}, rec_93 m x1 x2 x3 = some m' → AW K 0 93 [(0, q_r 70), (1, q_i x1), (2, q_i x2), (3, q_i x3)] [] m) {m : Mem} {x1 : Int32} {x2 : Int32} {x3 : Int32} (hF : B_X8_closesChanges_228 N rec_2 rec_93 m x1 x2 x3 = some m') : AW K 0 228 [(0, q_r 70), (1, q_i x1), (2, q_i x2), (3, q_i x3)] [] m := by
  unfold B_X8_closesChanges_228 at hF
  obtain ⟨y24, hy24, hF⟩ := bnd_some hF
  refine aw_iinc hK (cz := 1) 3 [(3, q_i y24), (0, q_r 70), (1, q_i x1), (2, q_i x2)] (by decide) rfl rfl hy24 rfl dX8_closesChanges_228 ?_
  refine aw_goto hK 93 rfl dX8_closesChanges_231 ?_
  refine aw_sub [1, 2, 3, 0] (lv' := [(0, q_r 70), (1, q_i x1), (2, q_i x2), (3, q_i y24)]) rfl ?_
  exact hrec_93 hF
def B_X8_closesChanges_182 (N : Nat) (rec_2 : Mem → Int32 → Int32 → Option Mem) (rec_93 : Mem → Int32 → Int32 → Int32 → Option Mem) (rec_112 : Mem → Int32 → Int32 → Int32 → Int32 → Option Mem) (m : Mem) (x1 : Int32) (x3 : Int32) (x4 : Int32) (x5 : Int32) (s0 : Int32) : Option Mem :=
  gd (inb x3 (alen 79)) <|
  gd (inb x3 (alen 79)) <|
  gd (inb (((32 : Int32) * x4) + (m 79 (ix x3))) (alen 100)) <|
  gd (inb (((32 : Int32) * x4) + (m 79 (ix x3))) (alen 100)) <|
  bnd (mup m 100 (ix (((32 : Int32) * x4) + (m 79 (ix x3)))) (P_X8_lesser x5 (m 100 (ix (((32 : Int32) * x4) + (m 79 (ix x3))))))) fun m22 =>
  bnd (x4 + (1 : Int32)) fun y23 =>
  rec_112 m22 x1 s0 x3 y23
set_option maxRecDepth 100000 in
set_option maxHeartbeats 4000000 in
theorem bk_X8_closesChanges_182 {N : Nat} {K : KT} {m' : Mem} {rec_2 : Mem → Int32 → Int32 → Option Mem} {rec_93 : Mem → Int32 → Int32 → Int32 → Option Mem} {rec_112 : Mem → Int32 → Int32 → Int32 → Int32 → Option Mem} (hK : KOK K cX8_closesChanges 6 RX8 wsX8_closesChanges 1 0 22) (hR : KRet K none none m') (hrec_2 : ∀ {m : Mem} {x1 : Int32} {x2 : Int32}, rec_2 m x1 x2 = some m' → AW K 0 2 [(0, q_r 70), (1, q_i x1), (2, q_i x2)] [] m) (hrec_93 : ∀ {m : Mem} {x1 : Int32} {x2 : Int32} {x3 : Int32}, rec_93 m x1 x2 x3 = some m' → AW K 0 93 [(0, q_r 70), (1, q_i x1), (2, q_i x2), (3, q_i x3)] [] m) (hrec_112 : ∀ {m : Mem} {x1 : Int32} {x2 : Int32} {x3 : Int32} {x4 : Int32}, rec_112 m x1 x2 x3 x4 = some m' → AW K 0 112 [(0, q_r 70), (1, q_i x1), (2, q_i x2), (3, q_i x3), (4, q_i x4)] [] m) {m : Mem} {x1 : Int32} {x3 : Int32} {x4 : Int32} {x5 : Int32} {s0 : Int32} (hF : B_X8_closesChanges_182 N rec_2 rec_93 rec_112 m x1 x3 x4 x5 s0 = some m') : AW K 0 182 [(0, q_r 70), (1, q_i x1), (3, q_i x3), (4, q_i x4), (5, q_i x5)] [q_i s0] m := by
  unfold B_X8_closesChanges_182 at hF
  refine aw_istore_n hK [(2, q_i s0), (0, q_r 70), (1, q_i x1), (3, q_i x3), (4, q_i x4), (5, q_i x5)] (by decide) rfl dX8_closesChanges_182 ?_
  refine aw_aload_n hK 1 rfl dX8_closesChanges_183 ?_
  refine gf_8_37 hK rfl (100) rfl (List.mem_of_getElem? (i := 2) rfl) dX8_closesChanges_184 ?_
  refine aw_bipush hK (32) rfl dX8_closesChanges_187 ?_
  refine aw_iload hK 4 rfl dX8_closesChanges_189 ?_
  refine aw_imul hK dX8_closesChanges_191 ?_
  refine aw_aload_n hK 1 rfl dX8_closesChanges_192 ?_
  refine gf_8_10 hK rfl (79) rfl (List.mem_of_getElem? (i := 6) rfl) dX8_closesChanges_193 ?_
  refine aw_iload_n hK 3 rfl dX8_closesChanges_196 ?_
  obtain ⟨g18, hF⟩ := gd_some hF
  refine aw_iald hK rfl g18 dX8_closesChanges_197 ?_
  refine aw_iadd hK dX8_closesChanges_198 ?_
  refine aw_iload hK 5 rfl dX8_closesChanges_199 ?_
  refine aw_aload_n hK 1 rfl dX8_closesChanges_201 ?_
  refine gf_8_37 hK rfl (100) rfl (List.mem_of_getElem? (i := 2) rfl) dX8_closesChanges_202 ?_
  refine aw_bipush hK (32) rfl dX8_closesChanges_205 ?_
  refine aw_iload hK 4 rfl dX8_closesChanges_207 ?_
  refine aw_imul hK dX8_closesChanges_209 ?_
  refine aw_aload_n hK 1 rfl dX8_closesChanges_210 ?_
  refine gf_8_10 hK rfl (79) rfl (List.mem_of_getElem? (i := 6) rfl) dX8_closesChanges_211 ?_
  refine aw_iload_n hK 3 rfl dX8_closesChanges_214 ?_
  obtain ⟨g19, hF⟩ := gd_some hF
  refine aw_iald hK rfl g19 dX8_closesChanges_215 ?_
  refine aw_iadd hK dX8_closesChanges_216 ?_
  obtain ⟨g20, hF⟩ := gd_some hF
  refine aw_iald hK rfl g20 dX8_closesChanges_217 ?_
  refine aw_cs hK (as := [q_i x5, q_i (m 100 (ix (((32 : Int32) * x4) + (m 79 (ix x3)))))]) (trp_X8_lesser x5 (m 100 (ix (((32 : Int32) * x4) + (m 79 (ix x3))))) _) gX8_closesChanges_X8_lesser rfl (na := 2) (by decide +kernel) rfl ⟨by decide, by decide⟩ (Nat.zero_le _) (Nat.le_of_ble_eq_true rfl) dX8_closesChanges_218 ?_
  obtain ⟨g21, hF⟩ := gd_some hF
  refine aw_iast hK rfl g21 dX8_closesChanges_221 ?_
  obtain ⟨m22, hm22, hF⟩ := bnd_some hF
  refine aw_mm hm22 ?_
  obtain ⟨y23, hy23, hF⟩ := bnd_some hF
  refine aw_iinc hK (cz := 1) 4 [(4, q_i y23), (2, q_i s0), (0, q_r 70), (1, q_i x1), (3, q_i x3), (5, q_i x5)] (by decide) rfl rfl hy23 rfl dX8_closesChanges_222 ?_
  refine aw_goto hK 112 rfl dX8_closesChanges_225 ?_
  refine aw_sub [2, 3, 1, 4, 0] (lv' := [(0, q_r 70), (1, q_i x1), (2, q_i s0), (3, q_i x3), (4, q_i y23)]) rfl ?_
  exact hrec_112 hF
def B_X8_closesChanges_177 (N : Nat) (rec_2 : Mem → Int32 → Int32 → Option Mem) (rec_93 : Mem → Int32 → Int32 → Int32 → Option Mem) (rec_112 : Mem → Int32 → Int32 → Int32 → Int32 → Option Mem) (m : Mem) (x1 : Int32) (x3 : Int32) (x4 : Int32) (x5 : Int32) : Option Mem :=
  B_X8_closesChanges_182 N rec_2 rec_93 rec_112 m x1 x3 x4 x5 (1 : Int32)
set_option maxRecDepth 100000 in
set_option maxHeartbeats 4000000 in
theorem bk_X8_closesChanges_177 {N : Nat} {K : KT} {m' : Mem} {rec_2 : Mem → Int32 → Int32 → Option Mem} {rec_93 : Mem → Int32 → Int32 → Int32 → Option Mem} {rec_112 : Mem → Int32 → Int32 → Int32 → Int32 → Option Mem} (hK : KOK K cX8_closesChanges 6 RX8 wsX8_closesChanges 1 0 22) (hR : KRet K none none m') (hrec_2 : ∀ {m : Mem} {x1 : Int32} {x2 : Int32}, rec_2 m x1 x2 = some m' → AW K 0 2 [(0, q_r 70), (1, q_i x1), (2, q_i x2)] [] m) (hrec_93 : ∀ {m : Mem} {x1 : Int32} {x2 : Int32} {x3 : Int32}, rec_93 m x1 x2 x3 = some m' → AW K 0 93 [(0, q_r 70), (1, q_i x1), (2, q_i x2), (3, q_i x3)] [] m) (hrec_112 : ∀ {m : Mem} {x1 : Int32} {x2 : Int32} {x3 : Int32} {x4 : Int32}, rec_112 m x1 x2 x3 x4 = some m' → AW K 0 112 [(0, q_r 70), (1, q_i x1), (2, q_i x2), (3, q_i x3), (4, q_i x4)] [] m) {m : Mem} {x1 : Int32} {x3 : Int32} {x4 : Int32} {x5 : Int32} (hF : B_X8_closesChanges_177 N rec_2 rec_93 rec_112 m x1 x3 x4 x5 = some m') : AW K 0 177 [(0, q_r 70), (1, q_i x1), (3, q_i x3), (4, q_i x4), (5, q_i x5)] [] m := by
  unfold B_X8_closesChanges_177 at hF
  refine aw_iconst hK (1) rfl dX8_closesChanges_177 ?_
  refine aw_goto hK 182 rfl dX8_closesChanges_178 ?_
  refine aw_sub [0, 1, 2, 3, 4] (lv' := [(0, q_r 70), (1, q_i x1), (3, q_i x3), (4, q_i x4), (5, q_i x5)]) rfl ?_
  exact bk_X8_closesChanges_182 hK hR hrec_2 hrec_93 hrec_112 hF
def S_X8_closesChanges_112 (N : Nat) (rec_2 : Mem → Int32 → Int32 → Option Mem) (rec_93 : Mem → Int32 → Int32 → Int32 → Option Mem) (rec_112 : Mem → Int32 → Int32 → Int32 → Int32 → Option Mem) (m : Mem) (x1 : Int32) (x2 : Int32) (x3 : Int32) (x4 : Int32) : Option Mem :=
  if (m 70 2) < x4 then (
    B_X8_closesChanges_228 N rec_2 rec_93 m x1 x2 x3
  ) else (
    gd (inb x3 (alen 76)) <|
    if (m 76 (ix x3)) = (8 : Int32) then (
      gd (inb x3 (alen 75)) <|
      gd (inb (((32 : Int32) * x4) + (m 75 (ix x3))) (alen 100)) <|
      bnd (m 100 (ix (((32 : Int32) * x4) + (m 75 (ix x3))))) fun y15 =>
      if x2 = (0 : Int32) then (
        gd (inb x3 (alen 79)) <|
        gd (inb (((32 : Int32) * x4) + (m 79 (ix x3))) (alen 100)) <|
        if (m 100 (ix (((32 : Int32) * x4) + (m 79 (ix x3))))) ≤ y15 then (
          B_X8_closesChanges_182 N rec_2 rec_93 rec_112 m x1 x3 x4 y15 (0 : Int32)
        ) else (
          B_X8_closesChanges_177 N rec_2 rec_93 rec_112 m x1 x3 x4 y15
        )
      ) else (
        B_X8_closesChanges_177 N rec_2 rec_93 rec_112 m x1 x3 x4 y15
      )
    ) else (
      B_X8_closesChanges_228 N rec_2 rec_93 m x1 x2 x3
    )
  )
def L_X8_closesChanges_112 (N : Nat) (rec_2 : Mem → Int32 → Int32 → Option Mem) (rec_93 : Mem → Int32 → Int32 → Int32 → Option Mem) : Nat → Mem → Int32 → Int32 → Int32 → Int32 → Option Mem
  | 0 => fun _ _ _ _ _ => none
  | f + 1 => S_X8_closesChanges_112 N rec_2 rec_93 (L_X8_closesChanges_112 N rec_2 rec_93 f)
set_option maxRecDepth 100000 in
set_option maxHeartbeats 4000000 in
theorem lp_X8_closesChanges_112 {N : Nat} {K : KT} {m' : Mem} {rec_2 : Mem → Int32 → Int32 → Option Mem} {rec_93 : Mem → Int32 → Int32 → Int32 → Option Mem} (hK : KOK K cX8_closesChanges 6 RX8 wsX8_closesChanges 1 0 22) (hR : KRet K none none m') (hrec_2 : ∀ {m : Mem} {x1 : Int32} {x2 : Int32}, rec_2 m x1 x2 = some m' → AW K 0 2 [(0, q_r 70), (1, q_i x1), (2, q_i x2)] [] m) (hrec_93 : ∀ {m : Mem} {x1 : Int32} {x2 : Int32} {x3 : Int32}, rec_93 m x1 x2 x3 = some m' → AW K 0 93 [(0, q_r 70), (1, q_i x1), (2, q_i x2), (3, q_i x3)] [] m) : ∀ (f : Nat) {m : Mem} {x1 : Int32} {x2 : Int32} {x3 : Int32} {x4 : Int32}, L_X8_closesChanges_112 N rec_2 rec_93 f m x1 x2 x3 x4 = some m' → AW K 0 112 [(0, q_r 70), (1, q_i x1), (2, q_i x2), (3, q_i x3), (4, q_i x4)] [] m := by
  intro f
  induction f with
  | zero => intro m x1 x2 x3 x4 hF; cases hF
  | succ f hrec_112 =>
    intro m x1 x2 x3 x4 hF
    have hF : S_X8_closesChanges_112 N rec_2 rec_93 (L_X8_closesChanges_112 N rec_2 rec_93 f) m x1 x2 x3 x4 = some m' := hF
    unfold S_X8_closesChanges_112 at hF
    refine aw_iload hK 4 rfl dX8_closesChanges_112 ?_
    refine aw_aload_n hK 0 rfl dX8_closesChanges_114 ?_
    refine gf_8_2 hK rfl (List.mem_of_getElem? (i := 1) rfl) dX8_closesChanges_115 ?_
    refine aw_icmp_gt hK 228 rfl dX8_closesChanges_118 (fun hc => ?_) (fun hc => ?_)
    · have hF := if_t hF hc
      refine aw_sub [0, 1, 2, 3] (lv' := [(0, q_r 70), (1, q_i x1), (2, q_i x2), (3, q_i x3)]) rfl ?_
      exact bk_X8_closesChanges_228 hK hR hrec_2 hrec_93 hF
    · have hF := if_f hF hc
      refine aw_aload_n hK 0 rfl dX8_closesChanges_121 ?_
      refine gf_8_7 hK rfl (76) rfl (List.mem_of_getElem? (i := 4) rfl) dX8_closesChanges_122 ?_
      refine aw_iload_n hK 3 rfl dX8_closesChanges_125 ?_
      obtain ⟨g12, hF⟩ := gd_some hF
      refine aw_iald hK rfl g12 dX8_closesChanges_126 ?_
      refine aw_bipush hK (8) rfl dX8_closesChanges_127 ?_
      refine aw_icmp_ne hK 228 rfl dX8_closesChanges_129 (fun hc => ?_) (fun hc => ?_)
      · have hF := if_f hF hc
        refine aw_sub [0, 1, 2, 3] (lv' := [(0, q_r 70), (1, q_i x1), (2, q_i x2), (3, q_i x3)]) rfl ?_
        exact bk_X8_closesChanges_228 hK hR hrec_2 hrec_93 hF
      · have hF := if_t hF hc
        refine aw_aload_n hK 0 rfl dX8_closesChanges_132 ?_
        refine gf_8_37 hK rfl (100) rfl (List.mem_of_getElem? (i := 2) rfl) dX8_closesChanges_133 ?_
        refine aw_bipush hK (32) rfl dX8_closesChanges_136 ?_
        refine aw_iload hK 4 rfl dX8_closesChanges_138 ?_
        refine aw_imul hK dX8_closesChanges_140 ?_
        refine aw_aload_n hK 0 rfl dX8_closesChanges_141 ?_
        refine gf_8_6 hK rfl (75) rfl (List.mem_of_getElem? (i := 5) rfl) dX8_closesChanges_142 ?_
        refine aw_iload_n hK 3 rfl dX8_closesChanges_145 ?_
        obtain ⟨g13, hF⟩ := gd_some hF
        refine aw_iald hK rfl g13 dX8_closesChanges_146 ?_
        refine aw_iadd hK dX8_closesChanges_147 ?_
        obtain ⟨g14, hF⟩ := gd_some hF
        refine aw_iald hK rfl g14 dX8_closesChanges_148 ?_
        obtain ⟨y15, hy15, hF⟩ := bnd_some hF
        refine aw_nm hy15 ?_
        refine aw_istore hK [(5, q_i y15), (0, q_r 70), (1, q_i x1), (2, q_i x2), (3, q_i x3), (4, q_i x4)] (by decide) rfl dX8_closesChanges_149 ?_
        refine aw_iload_n hK 3 rfl dX8_closesChanges_151 ?_
        refine aw_if_ne hK 177 rfl dX8_closesChanges_152 (fun hc => ?_) (fun hc => ?_)
        · have hF := if_f hF hc
          refine aw_sub [1, 2, 4, 5, 0] (lv' := [(0, q_r 70), (1, q_i x1), (3, q_i x3), (4, q_i x4), (5, q_i y15)]) rfl ?_
          exact bk_X8_closesChanges_177 hK hR hrec_2 hrec_93 hrec_112 hF
        · have hF := if_t hF hc
          refine aw_iload hK 0 rfl dX8_closesChanges_155 ?_
          refine aw_aload_n hK 1 rfl dX8_closesChanges_157 ?_
          refine gf_8_37 hK rfl (100) rfl (List.mem_of_getElem? (i := 2) rfl) dX8_closesChanges_158 ?_
          refine aw_bipush hK (32) rfl dX8_closesChanges_161 ?_
          refine aw_iload hK 5 rfl dX8_closesChanges_163 ?_
          refine aw_imul hK dX8_closesChanges_165 ?_
          refine aw_aload_n hK 1 rfl dX8_closesChanges_166 ?_
          refine gf_8_10 hK rfl (79) rfl (List.mem_of_getElem? (i := 6) rfl) dX8_closesChanges_167 ?_
          refine aw_iload_n hK 4 rfl dX8_closesChanges_170 ?_
          obtain ⟨g16, hF⟩ := gd_some hF
          refine aw_iald hK rfl g16 dX8_closesChanges_171 ?_
          refine aw_iadd hK dX8_closesChanges_172 ?_
          obtain ⟨g17, hF⟩ := gd_some hF
          refine aw_iald hK rfl g17 dX8_closesChanges_173 ?_
          refine aw_icmp_ge hK 181 rfl dX8_closesChanges_174 (fun hc => ?_) (fun hc => ?_)
          · have hF := if_t hF hc
            refine aw_iconst hK (0) rfl dX8_closesChanges_181 ?_
            refine aw_sub [1, 2, 4, 5, 0] (lv' := [(0, q_r 70), (1, q_i x1), (3, q_i x3), (4, q_i x4), (5, q_i y15)]) rfl ?_
            exact bk_X8_closesChanges_182 hK hR hrec_2 hrec_93 hrec_112 hF
          · have hF := if_f hF hc
            refine aw_sub [1, 2, 4, 5, 0] (lv' := [(0, q_r 70), (1, q_i x1), (3, q_i x3), (4, q_i x4), (5, q_i y15)]) rfl ?_
            exact bk_X8_closesChanges_177 hK hR hrec_2 hrec_93 hrec_112 hF
def S_X8_closesChanges_93 (N : Nat) (rec_2 : Mem → Int32 → Int32 → Option Mem) (rec_93 : Mem → Int32 → Int32 → Int32 → Option Mem) (m : Mem) (x1 : Int32) (x2 : Int32) (x3 : Int32) : Option Mem :=
  gd (inb x1 (alen 74)) <|
  if (((160 : Int32) * x1) + (m 74 (ix x1))) ≤ x3 then (
    rec_2 m x1 x2
  ) else (
    L_X8_closesChanges_112 N rec_2 rec_93 N m x1 x2 x3 (0 : Int32)
  )
def L_X8_closesChanges_93 (N : Nat) (rec_2 : Mem → Int32 → Int32 → Option Mem) : Nat → Mem → Int32 → Int32 → Int32 → Option Mem
  | 0 => fun _ _ _ _ => none
  | f + 1 => S_X8_closesChanges_93 N rec_2 (L_X8_closesChanges_93 N rec_2 f)
set_option maxRecDepth 100000 in
set_option maxHeartbeats 4000000 in
theorem lp_X8_closesChanges_93 {N : Nat} {K : KT} {m' : Mem} {rec_2 : Mem → Int32 → Int32 → Option Mem} (hK : KOK K cX8_closesChanges 6 RX8 wsX8_closesChanges 1 0 22) (hR : KRet K none none m') (hrec_2 : ∀ {m : Mem} {x1 : Int32} {x2 : Int32}, rec_2 m x1 x2 = some m' → AW K 0 2 [(0, q_r 70), (1, q_i x1), (2, q_i x2)] [] m) : ∀ (f : Nat) {m : Mem} {x1 : Int32} {x2 : Int32} {x3 : Int32}, L_X8_closesChanges_93 N rec_2 f m x1 x2 x3 = some m' → AW K 0 93 [(0, q_r 70), (1, q_i x1), (2, q_i x2), (3, q_i x3)] [] m := by
  intro f
  induction f with
  | zero => intro m x1 x2 x3 hF; cases hF
  | succ f hrec_93 =>
    intro m x1 x2 x3 hF
    have hF : S_X8_closesChanges_93 N rec_2 (L_X8_closesChanges_93 N rec_2 f) m x1 x2 x3 = some m' := hF
    unfold S_X8_closesChanges_93 at hF
    refine aw_iload_n hK 3 rfl dX8_closesChanges_93 ?_
    refine aw_sipush hK (160) rfl dX8_closesChanges_94 ?_
    refine aw_iload_n hK 1 rfl dX8_closesChanges_97 ?_
    refine aw_imul hK dX8_closesChanges_98 ?_
    refine aw_aload_n hK 0 rfl dX8_closesChanges_99 ?_
    refine gf_8_5 hK rfl (74) rfl (List.mem_of_getElem? (i := 3) rfl) dX8_closesChanges_100 ?_
    refine aw_iload_n hK 1 rfl dX8_closesChanges_103 ?_
    obtain ⟨g11, hF⟩ := gd_some hF
    refine aw_iald hK rfl g11 dX8_closesChanges_104 ?_
    refine aw_iadd hK dX8_closesChanges_105 ?_
    refine aw_icmp_ge hK 234 rfl dX8_closesChanges_106 (fun hc => ?_) (fun hc => ?_)
    · have hF := if_t hF hc
      refine aw_goto hK 2 rfl dX8_closesChanges_234 ?_
      refine aw_sub [0, 1, 2] (lv' := [(0, q_r 70), (1, q_i x1), (2, q_i x2)]) rfl ?_
      exact hrec_2 hF
    · have hF := if_f hF hc
      refine aw_iconst hK (0) rfl dX8_closesChanges_109 ?_
      refine aw_istore hK [(4, q_i (0 : Int32)), (0, q_r 70), (1, q_i x1), (2, q_i x2), (3, q_i x3)] (by decide) rfl dX8_closesChanges_110 ?_
      refine aw_sub [1, 2, 3, 4, 0] (lv' := [(0, q_r 70), (1, q_i x1), (2, q_i x2), (3, q_i x3), (4, q_i (0 : Int32))]) rfl ?_
      exact lp_X8_closesChanges_112 hK hR hrec_2 hrec_93 _ hF
def B_X8_closesChanges_57 (N : Nat) (rec_2 : Mem → Int32 → Int32 → Option Mem) (rec_10 : Mem → Int32 → Int32 → Int32 → Option Mem) (m : Mem) (x1 : Int32) (x3 : Int32) (x4 : Int32) (s0 : Int32) : Option Mem :=
  gd (inb (x3 + (32 : Int32)) (alen 100)) <|
  gd (inb (x3 + (32 : Int32)) (alen 100)) <|
  bnd (mup m 100 (ix (x3 + (32 : Int32))) (P_X8_lesser x4 (m 100 (ix (x3 + (32 : Int32)))))) fun m9 =>
  bnd (x3 + (1 : Int32)) fun y10 =>
  rec_10 m9 x1 s0 y10
set_option maxRecDepth 100000 in
set_option maxHeartbeats 4000000 in
theorem bk_X8_closesChanges_57 {N : Nat} {K : KT} {m' : Mem} {rec_2 : Mem → Int32 → Int32 → Option Mem} {rec_10 : Mem → Int32 → Int32 → Int32 → Option Mem} (hK : KOK K cX8_closesChanges 6 RX8 wsX8_closesChanges 1 0 22) (hR : KRet K none none m') (hrec_2 : ∀ {m : Mem} {x1 : Int32} {x2 : Int32}, rec_2 m x1 x2 = some m' → AW K 0 2 [(0, q_r 70), (1, q_i x1), (2, q_i x2)] [] m) (hrec_10 : ∀ {m : Mem} {x1 : Int32} {x2 : Int32} {x3 : Int32}, rec_10 m x1 x2 x3 = some m' → AW K 0 10 [(0, q_r 70), (1, q_i x1), (2, q_i x2), (3, q_i x3)] [] m) {m : Mem} {x1 : Int32} {x3 : Int32} {x4 : Int32} {s0 : Int32} (hF : B_X8_closesChanges_57 N rec_2 rec_10 m x1 x3 x4 s0 = some m') : AW K 0 57 [(0, q_r 70), (1, q_i x1), (3, q_i x3), (4, q_i x4)] [q_i s0] m := by
  unfold B_X8_closesChanges_57 at hF
  refine aw_istore_n hK [(2, q_i s0), (0, q_r 70), (1, q_i x1), (3, q_i x3), (4, q_i x4)] (by decide) rfl dX8_closesChanges_57 ?_
  refine aw_aload_n hK 1 rfl dX8_closesChanges_58 ?_
  refine gf_8_37 hK rfl (100) rfl (List.mem_of_getElem? (i := 2) rfl) dX8_closesChanges_59 ?_
  refine aw_iload_n hK 3 rfl dX8_closesChanges_62 ?_
  refine aw_bipush hK (32) rfl dX8_closesChanges_63 ?_
  refine aw_iadd hK dX8_closesChanges_65 ?_
  refine aw_iload hK 4 rfl dX8_closesChanges_66 ?_
  refine aw_aload_n hK 1 rfl dX8_closesChanges_68 ?_
  refine gf_8_37 hK rfl (100) rfl (List.mem_of_getElem? (i := 2) rfl) dX8_closesChanges_69 ?_
  refine aw_iload_n hK 3 rfl dX8_closesChanges_72 ?_
  refine aw_bipush hK (32) rfl dX8_closesChanges_73 ?_
  refine aw_iadd hK dX8_closesChanges_75 ?_
  obtain ⟨g7, hF⟩ := gd_some hF
  refine aw_iald hK rfl g7 dX8_closesChanges_76 ?_
  refine aw_cs hK (as := [q_i x4, q_i (m 100 (ix (x3 + (32 : Int32))))]) (trp_X8_lesser x4 (m 100 (ix (x3 + (32 : Int32)))) _) gX8_closesChanges_X8_lesser rfl (na := 2) (by decide +kernel) rfl ⟨by decide, by decide⟩ (Nat.zero_le _) (Nat.le_of_ble_eq_true rfl) dX8_closesChanges_77 ?_
  obtain ⟨g8, hF⟩ := gd_some hF
  refine aw_iast hK rfl g8 dX8_closesChanges_80 ?_
  obtain ⟨m9, hm9, hF⟩ := bnd_some hF
  refine aw_mm hm9 ?_
  obtain ⟨y10, hy10, hF⟩ := bnd_some hF
  refine aw_iinc hK (cz := 1) 3 [(3, q_i y10), (2, q_i s0), (0, q_r 70), (1, q_i x1), (4, q_i x4)] (by decide) rfl rfl hy10 rfl dX8_closesChanges_81 ?_
  refine aw_goto hK 10 rfl dX8_closesChanges_84 ?_
  refine aw_sub [2, 3, 1, 0] (lv' := [(0, q_r 70), (1, q_i x1), (2, q_i s0), (3, q_i y10)]) rfl ?_
  exact hrec_10 hF
def B_X8_closesChanges_52 (N : Nat) (rec_2 : Mem → Int32 → Int32 → Option Mem) (rec_10 : Mem → Int32 → Int32 → Int32 → Option Mem) (m : Mem) (x1 : Int32) (x3 : Int32) (x4 : Int32) : Option Mem :=
  B_X8_closesChanges_57 N rec_2 rec_10 m x1 x3 x4 (1 : Int32)
set_option maxRecDepth 100000 in
set_option maxHeartbeats 4000000 in
theorem bk_X8_closesChanges_52 {N : Nat} {K : KT} {m' : Mem} {rec_2 : Mem → Int32 → Int32 → Option Mem} {rec_10 : Mem → Int32 → Int32 → Int32 → Option Mem} (hK : KOK K cX8_closesChanges 6 RX8 wsX8_closesChanges 1 0 22) (hR : KRet K none none m') (hrec_2 : ∀ {m : Mem} {x1 : Int32} {x2 : Int32}, rec_2 m x1 x2 = some m' → AW K 0 2 [(0, q_r 70), (1, q_i x1), (2, q_i x2)] [] m) (hrec_10 : ∀ {m : Mem} {x1 : Int32} {x2 : Int32} {x3 : Int32}, rec_10 m x1 x2 x3 = some m' → AW K 0 10 [(0, q_r 70), (1, q_i x1), (2, q_i x2), (3, q_i x3)] [] m) {m : Mem} {x1 : Int32} {x3 : Int32} {x4 : Int32} (hF : B_X8_closesChanges_52 N rec_2 rec_10 m x1 x3 x4 = some m') : AW K 0 52 [(0, q_r 70), (1, q_i x1), (3, q_i x3), (4, q_i x4)] [] m := by
  unfold B_X8_closesChanges_52 at hF
  refine aw_iconst hK (1) rfl dX8_closesChanges_52 ?_
  refine aw_goto hK 57 rfl dX8_closesChanges_53 ?_
  refine aw_sub [0, 1, 2, 3] (lv' := [(0, q_r 70), (1, q_i x1), (3, q_i x3), (4, q_i x4)]) rfl ?_
  exact bk_X8_closesChanges_57 hK hR hrec_2 hrec_10 hF
def S_X8_closesChanges_10 (N : Nat) (rec_2 : Mem → Int32 → Int32 → Option Mem) (rec_10 : Mem → Int32 → Int32 → Int32 → Option Mem) (m : Mem) (x1 : Int32) (x2 : Int32) (x3 : Int32) : Option Mem :=
  if ((32 : Int32) * (m 70 2)) ≤ x3 then (
    bnd ((160 : Int32) * x1) fun y1 =>
    L_X8_closesChanges_93 N rec_2 N m x1 x2 y1
  ) else (
    gd (inb x3 (alen 100)) <|
    cal (F_X8_plus N m (m 100 (ix x3)) (1 : Int32)) fun r5 m4 =>
    if x2 = (0 : Int32) then (
      gd (inb (x3 + (32 : Int32)) (alen 100)) <|
      if (m4 100 (ix (x3 + (32 : Int32)))) ≤ r5 then (
        B_X8_closesChanges_57 N rec_2 rec_10 m4 x1 x3 r5 (0 : Int32)
      ) else (
        B_X8_closesChanges_52 N rec_2 rec_10 m4 x1 x3 r5
      )
    ) else (
      B_X8_closesChanges_52 N rec_2 rec_10 m4 x1 x3 r5
    )
  )
def L_X8_closesChanges_10 (N : Nat) (rec_2 : Mem → Int32 → Int32 → Option Mem) : Nat → Mem → Int32 → Int32 → Int32 → Option Mem
  | 0 => fun _ _ _ _ => none
  | f + 1 => S_X8_closesChanges_10 N rec_2 (L_X8_closesChanges_10 N rec_2 f)
set_option maxRecDepth 100000 in
set_option maxHeartbeats 4000000 in
theorem lp_X8_closesChanges_10 {N : Nat} {K : KT} {m' : Mem} {rec_2 : Mem → Int32 → Int32 → Option Mem} (hK : KOK K cX8_closesChanges 6 RX8 wsX8_closesChanges 1 0 22) (hR : KRet K none none m') (hrec_2 : ∀ {m : Mem} {x1 : Int32} {x2 : Int32}, rec_2 m x1 x2 = some m' → AW K 0 2 [(0, q_r 70), (1, q_i x1), (2, q_i x2)] [] m) : ∀ (f : Nat) {m : Mem} {x1 : Int32} {x2 : Int32} {x3 : Int32}, L_X8_closesChanges_10 N rec_2 f m x1 x2 x3 = some m' → AW K 0 10 [(0, q_r 70), (1, q_i x1), (2, q_i x2), (3, q_i x3)] [] m := by
  intro f
  induction f with
  | zero => intro m x1 x2 x3 hF; cases hF
  | succ f hrec_10 =>
    intro m x1 x2 x3 hF
    have hF : S_X8_closesChanges_10 N rec_2 (L_X8_closesChanges_10 N rec_2 f) m x1 x2 x3 = some m' := hF
    unfold S_X8_closesChanges_10 at hF
    refine aw_iload_n hK 3 rfl dX8_closesChanges_10 ?_
    refine aw_bipush hK (32) rfl dX8_closesChanges_11 ?_
    refine aw_aload_n hK 0 rfl dX8_closesChanges_13 ?_
    refine gf_8_2 hK rfl (List.mem_of_getElem? (i := 1) rfl) dX8_closesChanges_14 ?_
    refine aw_imul hK dX8_closesChanges_17 ?_
    refine aw_icmp_ge hK 87 rfl dX8_closesChanges_18 (fun hc => ?_) (fun hc => ?_)
    · have hF := if_t hF hc
      refine aw_sipush hK (160) rfl dX8_closesChanges_87 ?_
      refine aw_iload_n hK 1 rfl dX8_closesChanges_90 ?_
      refine aw_imul hK dX8_closesChanges_91 ?_
      obtain ⟨y1, hy1, hF⟩ := bnd_some hF
      refine aw_nm hy1 ?_
      refine aw_istore_n hK [(3, q_i y1), (0, q_r 70), (1, q_i x1), (2, q_i x2)] (by decide) rfl dX8_closesChanges_92 ?_
      refine aw_sub [1, 2, 3, 0] (lv' := [(0, q_r 70), (1, q_i x1), (2, q_i x2), (3, q_i y1)]) rfl ?_
      exact lp_X8_closesChanges_93 hK hR hrec_2 _ hF
    · have hF := if_f hF hc
      refine aw_aload_n hK 0 rfl dX8_closesChanges_21 ?_
      refine aw_aload_n hK 0 rfl dX8_closesChanges_22 ?_
      refine gf_8_37 hK rfl (100) rfl (List.mem_of_getElem? (i := 2) rfl) dX8_closesChanges_23 ?_
      refine aw_iload_n hK 3 rfl dX8_closesChanges_26 ?_
      obtain ⟨g2, hF⟩ := gd_some hF
      refine aw_iald hK rfl g2 dX8_closesChanges_27 ?_
      refine aw_iconst hK (1) rfl dX8_closesChanges_28 ?_
      obtain ⟨r5, m4, h3, hF⟩ := cal_some hF
      refine aw_cv hK 8 (as := [q_i (m 100 (ix x3)), q_i (1 : Int32)]) (tr_X8_plus h3) gX8_closesChanges_X8_plus rfl rfl rfl (by decide) (na := 2) (by decide +kernel) rfl ⟨by decide, by decide⟩ (Nat.zero_le _) (Nat.le_of_ble_eq_true rfl) dX8_closesChanges_29 ?_
      refine aw_istore hK [(4, q_i r5), (0, q_r 70), (1, q_i x1), (2, q_i x2), (3, q_i x3)] (by decide) rfl dX8_closesChanges_32 ?_
      refine aw_iload_n hK 3 rfl dX8_closesChanges_34 ?_
      refine aw_if_ne hK 52 rfl dX8_closesChanges_35 (fun hc => ?_) (fun hc => ?_)
      · have hF := if_f hF hc
        refine aw_sub [1, 2, 4, 0] (lv' := [(0, q_r 70), (1, q_i x1), (3, q_i x3), (4, q_i r5)]) rfl ?_
        exact bk_X8_closesChanges_52 hK hR hrec_2 hrec_10 hF
      · have hF := if_t hF hc
        refine aw_iload hK 0 rfl dX8_closesChanges_38 ?_
        refine aw_aload_n hK 1 rfl dX8_closesChanges_40 ?_
        refine gf_8_37 hK rfl (100) rfl (List.mem_of_getElem? (i := 2) rfl) dX8_closesChanges_41 ?_
        refine aw_iload_n hK 4 rfl dX8_closesChanges_44 ?_
        refine aw_bipush hK (32) rfl dX8_closesChanges_45 ?_
        refine aw_iadd hK dX8_closesChanges_47 ?_
        obtain ⟨g6, hF⟩ := gd_some hF
        refine aw_iald hK rfl g6 dX8_closesChanges_48 ?_
        refine aw_icmp_ge hK 56 rfl dX8_closesChanges_49 (fun hc => ?_) (fun hc => ?_)
        · have hF := if_t hF hc
          refine aw_iconst hK (0) rfl dX8_closesChanges_56 ?_
          refine aw_sub [1, 2, 4, 0] (lv' := [(0, q_r 70), (1, q_i x1), (3, q_i x3), (4, q_i r5)]) rfl ?_
          exact bk_X8_closesChanges_57 hK hR hrec_2 hrec_10 hF
        · have hF := if_f hF hc
          refine aw_sub [1, 2, 4, 0] (lv' := [(0, q_r 70), (1, q_i x1), (3, q_i x3), (4, q_i r5)]) rfl ?_
          exact bk_X8_closesChanges_52 hK hR hrec_2 hrec_10 hF
def S_X8_closesChanges_2 (N : Nat) (rec_2 : Mem → Int32 → Int32 → Option Mem) (m : Mem) (x1 : Int32) (x2 : Int32) : Option Mem :=
  if x2 = (0 : Int32) then (
    some m
  ) else (
    L_X8_closesChanges_10 N rec_2 N m x1 (0 : Int32) (0 : Int32)
  )
def L_X8_closesChanges_2 (N : Nat) : Nat → Mem → Int32 → Int32 → Option Mem
  | 0 => fun _ _ _ => none
  | f + 1 => S_X8_closesChanges_2 N (L_X8_closesChanges_2 N f)
set_option maxRecDepth 100000 in
set_option maxHeartbeats 4000000 in
theorem lp_X8_closesChanges_2 {N : Nat} {K : KT} {m' : Mem} (hK : KOK K cX8_closesChanges 6 RX8 wsX8_closesChanges 1 0 22) (hR : KRet K none none m') : ∀ (f : Nat) {m : Mem} {x1 : Int32} {x2 : Int32}, L_X8_closesChanges_2 N f m x1 x2 = some m' → AW K 0 2 [(0, q_r 70), (1, q_i x1), (2, q_i x2)] [] m := by
  intro f
  induction f with
  | zero => intro m x1 x2 hF; cases hF
  | succ f hrec_2 =>
    intro m x1 x2 hF
    have hF : S_X8_closesChanges_2 N (L_X8_closesChanges_2 N f) m x1 x2 = some m' := hF
    unfold S_X8_closesChanges_2 at hF
    refine aw_iload_n hK 2 rfl dX8_closesChanges_2 ?_
    refine aw_if_eq hK 237 rfl dX8_closesChanges_3 (fun hc => ?_) (fun hc => ?_)
    · have hF := if_t hF hc
      obtain rfl := Option.some.inj hF
      exact aw_vret hK hR dX8_closesChanges_237
    · have hF := if_f hF hc
      refine aw_iconst hK (0) rfl dX8_closesChanges_6 ?_
      refine aw_istore_n hK [(2, q_i (0 : Int32)), (0, q_r 70), (1, q_i x1)] (by decide) rfl dX8_closesChanges_7 ?_
      refine aw_iconst hK (0) rfl dX8_closesChanges_8 ?_
      refine aw_istore_n hK [(3, q_i (0 : Int32)), (2, q_i (0 : Int32)), (0, q_r 70), (1, q_i x1)] (by decide) rfl dX8_closesChanges_9 ?_
      refine aw_sub [2, 3, 1, 0] (lv' := [(0, q_r 70), (1, q_i x1), (2, q_i (0 : Int32)), (3, q_i (0 : Int32))]) rfl ?_
      exact lp_X8_closesChanges_10 hK hR hrec_2 _ hF
def F_X8_closesChanges (N : Nat) (m : Mem) (x1 : Int32) : Option Mem :=
  L_X8_closesChanges_2 N N m x1 (1 : Int32)
set_option maxRecDepth 100000 in
set_option maxHeartbeats 4000000 in
theorem tr_X8_closesChanges {N : Nat} {m m' : Mem} {x1 : Int32} (hF : F_X8_closesChanges N m x1 = some m') : Tr yX8_closesChanges wsX8_closesChanges 1 22 [q_r 70, q_i x1] m none m' := by
  refine tr_of (bytes := cX8_closesChanges) (maxL := 6) (ret := none) (by decide) rfl (Nat.le_of_ble_eq_true rfl) (fun K hK hR => ?_)
  have hK : KOK K cX8_closesChanges 6 RX8 wsX8_closesChanges 1 0 22 := hK
  show AW K 0 0 [(0, q_r 70), (1, q_i x1)] [] m
  unfold F_X8_closesChanges at hF
  refine aw_iconst hK (1) rfl dX8_closesChanges_0 ?_
  refine aw_istore_n hK [(2, q_i (1 : Int32)), (0, q_r 70), (1, q_i x1)] (by decide) rfl dX8_closesChanges_1 ?_
  refine aw_sub [1, 2, 0] (lv' := [(0, q_r 70), (1, q_i x1), (2, q_i (1 : Int32))]) rfl ?_
  exact lp_X8_closesChanges_2 hK hR _ hF
