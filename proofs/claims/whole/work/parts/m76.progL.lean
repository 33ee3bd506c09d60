def B_L_law_2100 (N : Nat) (rec_23 : Mem → Int32 → Option (Int32 × Mem)) (m : Mem) (x4 : Int32) : Option (Int32 × Mem) :=
  bnd (x4 + (6 : Int32)) fun y380 =>
  rec_23 m y380
set_option maxRecDepth 100000 in
set_option maxHeartbeats 40000000 in
theorem bk_L_law_2100 {N b L : Nat} {xs : Nat → Int32} {K : KT} {N0 : Nat} {m' : Mem} {f : Nat} {rec_23 : Mem → Int32 → Option (Int32 × Mem)} (hK : KOK K cL_law 7 RL wsL_law 11 N0 406) (hB : KB K) (hL : KL K b L xs) (hR : KLr K N0) (hrec_23 : ∀ {n : Nat} {m : Mem} {x4 : Int32} (hn : n + f * 7 ≤ N0), rec_23 m x4 = some (1, m') → AW K n 23 [(0, q_v (.ref b)), (1, q_r 0), (2, q_r 70), (3, q_r 108), (4, q_i x4)] [] m) {n : Nat} {m : Mem} {x4 : Int32} (hn : n + 7 + f * 7 ≤ N0) (hF : B_L_law_2100 N rec_23 m x4 = some (1, m')) : AW K (n + 7) 2100 [(0, q_v (.ref b)), (1, q_r 0), (2, q_r 70), (3, q_r 108), (4, q_i x4)] [] m := by
  unfold B_L_law_2100 at hF
  obtain ⟨y380, hy380, hF⟩ := bnd_some hF
  refine aw_iinc hK (cz := 6) 4 [(4, q_i y380), (0, q_v (.ref b)), (1, q_r 0), (2, q_r 70), (3, q_r 108)] (by decide) rfl rfl hy380 rfl dL_law_2100 ?_
  refine aw_goto hK 23 rfl dL_law_2103 ?_
  refine aw_sub [1, 2, 3, 4, 0] (lv' := [(0, q_v (.ref b)), (1, q_r 0), (2, q_r 70), (3, q_r 108), (4, q_i y380)]) rfl ?_
  exact hrec_23 (by omega) hF
def B_L_law_2084 (N : Nat) (rec_23 : Mem → Int32 → Option (Int32 × Mem)) (m : Mem) (x4 : Int32) : Option (Int32 × Mem) :=
  B_L_law_2100 N rec_23 m x4
set_option maxRecDepth 100000 in
set_option maxHeartbeats 40000000 in
theorem bk_L_law_2084 {N b L : Nat} {xs : Nat → Int32} {K : KT} {N0 : Nat} {m' : Mem} {f : Nat} {rec_23 : Mem → Int32 → Option (Int32 × Mem)} (hK : KOK K cL_law 7 RL wsL_law 11 N0 406) (hB : KB K) (hL : KL K b L xs) (hR : KLr K N0) (hrec_23 : ∀ {n : Nat} {m : Mem} {x4 : Int32} (hn : n + f * 7 ≤ N0), rec_23 m x4 = some (1, m') → AW K n 23 [(0, q_v (.ref b)), (1, q_r 0), (2, q_r 70), (3, q_r 108), (4, q_i x4)] [] m) {n : Nat} {m : Mem} {x4 : Int32} (hn : n + 7 + f * 7 ≤ N0) (hF : B_L_law_2084 N rec_23 m x4 = some (1, m')) : AW K (n + 7) 2084 [(0, q_v (.ref b)), (1, q_r 0), (2, q_r 70), (3, q_r 108), (4, q_i x4)] [] m := by
  unfold B_L_law_2084 at hF
  refine aw_goto hK 2100 rfl dL_law_2084 ?_
  refine aw_sub [0, 1, 2, 3, 4] (lv' := [(0, q_v (.ref b)), (1, q_r 0), (2, q_r 70), (3, q_r 108), (4, q_i x4)]) rfl ?_
  exact bk_L_law_2100 hK hB hL hR hrec_23 (by omega) hF
def B_L_law_2028 (N : Nat) (rec_23 : Mem → Int32 → Option (Int32 × Mem)) (m : Mem) (x4 : Int32) : Option (Int32 × Mem) :=
  B_L_law_2100 N rec_23 m x4
set_option maxRecDepth 100000 in
set_option maxHeartbeats 40000000 in
theorem bk_L_law_2028 {N b L : Nat} {xs : Nat → Int32} {K : KT} {N0 : Nat} {m' : Mem} {f : Nat} {rec_23 : Mem → Int32 → Option (Int32 × Mem)} (hK : KOK K cL_law 7 RL wsL_law 11 N0 406) (hB : KB K) (hL : KL K b L xs) (hR : KLr K N0) (hrec_23 : ∀ {n : Nat} {m : Mem} {x4 : Int32} (hn : n + f * 7 ≤ N0), rec_23 m x4 = some (1, m') → AW K n 23 [(0, q_v (.ref b)), (1, q_r 0), (2, q_r 70), (3, q_r 108), (4, q_i x4)] [] m) {n : Nat} {m : Mem} {x4 : Int32} (hn : n + 7 + f * 7 ≤ N0) (hF : B_L_law_2028 N rec_23 m x4 = some (1, m')) : AW K (n + 7) 2028 [(0, q_v (.ref b)), (1, q_r 0), (2, q_r 70), (3, q_r 108), (4, q_i x4)] [] m := by
  unfold B_L_law_2028 at hF
  refine aw_goto hK 2100 rfl dL_law_2028 ?_
  refine aw_sub [0, 1, 2, 3, 4] (lv' := [(0, q_v (.ref b)), (1, q_r 0), (2, q_r 70), (3, q_r 108), (4, q_i x4)]) rfl ?_
  exact bk_L_law_2100 hK hB hL hR hrec_23 (by omega) hF
def B_L_law_1924 (N : Nat) (rec_23 : Mem → Int32 → Option (Int32 × Mem)) (m : Mem) (x4 : Int32) : Option (Int32 × Mem) :=
  B_L_law_2100 N rec_23 m x4
set_option maxRecDepth 100000 in
set_option maxHeartbeats 40000000 in
theorem bk_L_law_1924 {N b L : Nat} {xs : Nat → Int32} {K : KT} {N0 : Nat} {m' : Mem} {f : Nat} {rec_23 : Mem → Int32 → Option (Int32 × Mem)} (hK : KOK K cL_law 7 RL wsL_law 11 N0 406) (hB : KB K) (hL : KL K b L xs) (hR : KLr K N0) (hrec_23 : ∀ {n : Nat} {m : Mem} {x4 : Int32} (hn : n + f * 7 ≤ N0), rec_23 m x4 = some (1, m') → AW K n 23 [(0, q_v (.ref b)), (1, q_r 0), (2, q_r 70), (3, q_r 108), (4, q_i x4)] [] m) {n : Nat} {m : Mem} {x4 : Int32} (hn : n + 7 + f * 7 ≤ N0) (hF : B_L_law_1924 N rec_23 m x4 = some (1, m')) : AW K (n + 7) 1924 [(0, q_v (.ref b)), (1, q_r 0), (2, q_r 70), (3, q_r 108), (4, q_i x4)] [] m := by
  unfold B_L_law_1924 at hF
  refine aw_goto hK 2100 rfl dL_law_1924 ?_
  refine aw_sub [0, 1, 2, 3, 4] (lv' := [(0, q_v (.ref b)), (1, q_r 0), (2, q_r 70), (3, q_r 108), (4, q_i x4)]) rfl ?_
  exact bk_L_law_2100 hK hB hL hR hrec_23 (by omega) hF
def B_L_law_1844 (N : Nat) (rec_23 : Mem → Int32 → Option (Int32 × Mem)) (m : Mem) (x4 : Int32) : Option (Int32 × Mem) :=
  B_L_law_2100 N rec_23 m x4
set_option maxRecDepth 100000 in
set_option maxHeartbeats 40000000 in
theorem bk_L_law_1844 {N b L : Nat} {xs : Nat → Int32} {K : KT} {N0 : Nat} {m' : Mem} {f : Nat} {rec_23 : Mem → Int32 → Option (Int32 × Mem)} (hK : KOK K cL_law 7 RL wsL_law 11 N0 406) (hB : KB K) (hL : KL K b L xs) (hR : KLr K N0) (hrec_23 : ∀ {n : Nat} {m : Mem} {x4 : Int32} (hn : n + f * 7 ≤ N0), rec_23 m x4 = some (1, m') → AW K n 23 [(0, q_v (.ref b)), (1, q_r 0), (2, q_r 70), (3, q_r 108), (4, q_i x4)] [] m) {n : Nat} {m : Mem} {x4 : Int32} (hn : n + 7 + f * 7 ≤ N0) (hF : B_L_law_1844 N rec_23 m x4 = some (1, m')) : AW K (n + 7) 1844 [(0, q_v (.ref b)), (1, q_r 0), (2, q_r 70), (3, q_r 108), (4, q_i x4)] [] m := by
  unfold B_L_law_1844 at hF
  refine aw_goto hK 2100 rfl dL_law_1844 ?_
  refine aw_sub [0, 1, 2, 3, 4] (lv' := [(0, q_v (.ref b)), (1, q_r 0), (2, q_r 70), (3, q_r 108), (4, q_i x4)]) rfl ?_
  exact bk_L_law_2100 hK hB hL hR hrec_23 (by omega) hF
def B_L_law_1776 (N : Nat) (rec_23 : Mem → Int32 → Option (Int32 × Mem)) (m : Mem) (x4 : Int32) : Option (Int32 × Mem) :=
  B_L_law_2100 N rec_23 m x4
set_option maxRecDepth 100000 in
set_option maxHeartbeats 40000000 in
theorem bk_L_law_1776 {N b L : Nat} {xs : Nat → Int32} {K : KT} {N0 : Nat} {m' : Mem} {f : Nat} {rec_23 : Mem → Int32 → Option (Int32 × Mem)} (hK : KOK K cL_law 7 RL wsL_law 11 N0 406) (hB : KB K) (hL : KL K b L xs) (hR : KLr K N0) (hrec_23 : ∀ {n : Nat} {m : Mem} {x4 : Int32} (hn : n + f * 7 ≤ N0), rec_23 m x4 = some (1, m') → AW K n 23 [(0, q_v (.ref b)), (1, q_r 0), (2, q_r 70), (3, q_r 108), (4, q_i x4)] [] m) {n : Nat} {m : Mem} {x4 : Int32} (hn : n + 7 + f * 7 ≤ N0) (hF : B_L_law_1776 N rec_23 m x4 = some (1, m')) : AW K (n + 7) 1776 [(0, q_v (.ref b)), (1, q_r 0), (2, q_r 70), (3, q_r 108), (4, q_i x4)] [] m := by
  unfold B_L_law_1776 at hF
  refine aw_goto hK 2100 rfl dL_law_1776 ?_
  refine aw_sub [0, 1, 2, 3, 4] (lv' := [(0, q_v (.ref b)), (1, q_r 0), (2, q_r 70), (3, q_r 108), (4, q_i x4)]) rfl ?_
  exact bk_L_law_2100 hK hB hL hR hrec_23 (by omega) hF
def B_L_law_1720 (N : Nat) (rec_23 : Mem → Int32 → Option (Int32 × Mem)) (m : Mem) (x4 : Int32) : Option (Int32 × Mem) :=
  B_L_law_2100 N rec_23 m x4
set_option maxRecDepth 100000 in
set_option maxHeartbeats 40000000 in
theorem bk_L_law_1720 {N b L : Nat} {xs : Nat → Int32} {K : KT} {N0 : Nat} {m' : Mem} {f : Nat} {rec_23 : Mem → Int32 → Option (Int32 × Mem)} (hK : KOK K cL_law 7 RL wsL_law 11 N0 406) (hB : KB K) (hL : KL K b L xs) (hR : KLr K N0) (hrec_23 : ∀ {n : Nat} {m : Mem} {x4 : Int32} (hn : n + f * 7 ≤ N0), rec_23 m x4 = some (1, m') → AW K n 23 [(0, q_v (.ref b)), (1, q_r 0), (2, q_r 70), (3, q_r 108), (4, q_i x4)] [] m) {n : Nat} {m : Mem} {x4 : Int32} (hn : n + 7 + f * 7 ≤ N0) (hF : B_L_law_1720 N rec_23 m x4 = some (1, m')) : AW K (n + 7) 1720 [(0, q_v (.ref b)), (1, q_r 0), (2, q_r 70), (3, q_r 108), (4, q_i x4)] [] m := by
  unfold B_L_law_1720 at hF
  refine aw_goto hK 2100 rfl dL_law_1720 ?_
  refine aw_sub [0, 1, 2, 3, 4] (lv' := [(0, q_v (.ref b)), (1, q_r 0), (2, q_r 70), (3, q_r 108), (4, q_i x4)]) rfl ?_
  exact bk_L_law_2100 hK hB hL hR hrec_23 (by omega) hF
def B_L_law_1681 (N L : Nat) (xs : Nat → Int32) (rec_23 : Mem → Int32 → Option (Int32 × Mem)) (m : Mem) (x4 : Int32) (x5 : Int32) (s0 : Int32) (s1 : Int32) : Option (Int32 × Mem) :=
  gd (inb (x4 + (3 : Int32)) L) <|
  cal (F_X8_best N m s1 s0 (xs (ix (x4 + (3 : Int32))))) fun r295 m294 =>
  cal (F_X8_thrown N m294) fun r298 m297 =>
  if r298 = x5 then (
    if x5 = (0 : Int32) then (
      gd (inb (0 : Int32) (alen 108)) <|
      if (lg_cmp (m297 108 (ix (0 : Int32))).toInt64 (r295).toInt64) = (0 : Int32) then (
        B_L_law_1720 N rec_23 m297 x4
      ) else (
        some ((0 : Int32), m297)
      )
    ) else (
      B_L_law_1720 N rec_23 m297 x4
    )
  ) else (
    some ((0 : Int32), m297)
  )
set_option maxRecDepth 100000 in
set_option maxHeartbeats 40000000 in
theorem bk_L_law_1681 {N b L : Nat} {xs : Nat → Int32} {K : KT} {N0 : Nat} {m' : Mem} {f : Nat} {rec_23 : Mem → Int32 → Option (Int32 × Mem)} (hK : KOK K cL_law 7 RL wsL_law 11 N0 406) (hB : KB K) (hL : KL K b L xs) (hR : KLr K N0) (hrec_23 : ∀ {n : Nat} {m : Mem} {x4 : Int32} (hn : n + f * 7 ≤ N0), rec_23 m x4 = some (1, m') → AW K n 23 [(0, q_v (.ref b)), (1, q_r 0), (2, q_r 70), (3, q_r 108), (4, q_i x4)] [] m) {n : Nat} {m : Mem} {x4 : Int32} {x5 : Int32} {s0 : Int32} {s1 : Int32} (hn : n + 7 + f * 7 ≤ N0) (hF : B_L_law_1681 N L xs rec_23 m x4 x5 s0 s1 = some (1, m')) : AW K (n + 7) 1681 [(0, q_v (.ref b)), (1, q_r 0), (2, q_r 70), (3, q_r 108), (4, q_i x4), (5, q_i x5)] [q_i s0, q_i s1, q_r 70] m := by
  unfold B_L_law_1681 at hF
  refine aw_aloadV_n hK 0 rfl dL_law_1681 ?_
  refine aw_iload hK 4 rfl dL_law_1682 ?_
  refine aw_iconst hK (3) rfl dL_law_1684 ?_
  refine aw_iadd hK dL_law_1685 ?_
  obtain ⟨g292, hF⟩ := gd_some hF
  refine aw_sld hK hL g292 dL_law_1686 ?_
  obtain ⟨r295, m294, h293, hF⟩ := cal_some hF
  refine aw_cv hK 8 (as := [q_i s1, q_i s0, q_i (xs (ix (x4 + (3 : Int32))))]) (tr_X8_best h293) gL_law_X8_best rfl rfl rfl (by decide) (na := 3) (by decide +kernel) rfl ⟨by decide, by decide⟩ (by omega) (Nat.le_of_ble_eq_true rfl) dL_law_1687 ?_
  refine aw_istore hK [(6, q_i r295), (0, q_v (.ref b)), (1, q_r 0), (2, q_r 70), (3, q_r 108), (4, q_i x4), (5, q_i x5)] (by decide) rfl dL_law_1690 ?_
  refine aw_aload_n hK 3 rfl dL_law_1692 ?_
  obtain ⟨r298, m297, h296, hF⟩ := cal_some hF
  refine aw_cv hK 8 (as := []) (tr_X8_thrown h296) gL_law_X8_thrown rfl rfl rfl (by decide) (na := 0) (by decide +kernel) rfl ⟨by decide, by decide⟩ (by omega) (Nat.le_of_ble_eq_true rfl) dL_law_1693 ?_
  refine aw_iload hK 6 rfl dL_law_1696 ?_
  refine aw_icmp_eq hK 1703 rfl dL_law_1698 (fun hc => ?_) (fun hc => ?_)
  · have hF := if_t hF hc
    refine aw_iload hK 6 rfl dL_law_1703 ?_
    refine aw_if_ne hK 1720 rfl dL_law_1705 (fun hc => ?_) (fun hc => ?_)
    · have hF := if_f hF hc
      refine aw_sub [1, 2, 3, 4, 5] (lv' := [(0, q_v (.ref b)), (1, q_r 0), (2, q_r 70), (3, q_r 108), (4, q_i x4)]) rfl ?_
      exact bk_L_law_1720 hK hB hL hR hrec_23 (by omega) hF
    · have hF := if_t hF hc
      refine aw_aload_n hK 4 rfl dL_law_1708 ?_
      refine aw_iconst hK (0) rfl dL_law_1709 ?_
      obtain ⟨g299, hF⟩ := gd_some hF
      refine aw_lald hK rfl g299 dL_law_1710 ?_
      refine aw_iload hK 0 rfl dL_law_1711 ?_
      refine aw_i2l hK dL_law_1713 ?_
      refine aw_lcmp hK dL_law_1714 ?_
      refine aw_if_eq hK 1720 rfl dL_law_1715 (fun hc => ?_) (fun hc => ?_)
      · have hF := if_t hF hc
        refine aw_sub [1, 2, 3, 4, 5] (lv' := [(0, q_v (.ref b)), (1, q_r 0), (2, q_r 70), (3, q_r 108), (4, q_i x4)]) rfl ?_
        exact bk_L_law_1720 hK hB hL hR hrec_23 (by omega) hF
      · have hF := if_f hF hc
        refine aw_iconst hK (0) rfl dL_law_1718 ?_
        obtain ⟨e1, rfl⟩ := so_inj hF
        exact absurd e1 (by decide)
  · have hF := if_f hF hc
    refine aw_iconst hK (0) rfl dL_law_1701 ?_
    obtain ⟨e1, rfl⟩ := so_inj hF
    exact absurd e1 (by decide)
def B_L_law_1648 (N L : Nat) (xs : Nat → Int32) (rec_23 : Mem → Int32 → Option (Int32 × Mem)) (m : Mem) (x4 : Int32) (s0 : Int32) (s1 : Int32) : Option (Int32 × Mem) :=
  gd (inb (x4 + (3 : Int32)) L) <|
  cal (F_L_best N m s1 s0 (xs (ix (x4 + (3 : Int32))))) fun r289 m288 =>
  gd (inb (x4 + (1 : Int32)) L) <|
  gd (inb (x4 + (2 : Int32)) L) <|
  if (xs (ix (x4 + (2 : Int32)))) = (0 : Int32) then (
    B_L_law_1681 N L xs rec_23 m288 x4 r289 (0 : Int32) (xs (ix (x4 + (1 : Int32))))
  ) else (
    B_L_law_1681 N L xs rec_23 m288 x4 r289 (1 : Int32) (xs (ix (x4 + (1 : Int32))))
  )
set_option maxRecDepth 100000 in
set_option maxHeartbeats 40000000 in
theorem bk_L_law_1648 {N b L : Nat} {xs : Nat → Int32} {K : KT} {N0 : Nat} {m' : Mem} {f : Nat} {rec_23 : Mem → Int32 → Option (Int32 × Mem)} (hK : KOK K cL_law 7 RL wsL_law 11 N0 406) (hB : KB K) (hL : KL K b L xs) (hR : KLr K N0) (hrec_23 : ∀ {n : Nat} {m : Mem} {x4 : Int32} (hn : n + f * 7 ≤ N0), rec_23 m x4 = some (1, m') → AW K n 23 [(0, q_v (.ref b)), (1, q_r 0), (2, q_r 70), (3, q_r 108), (4, q_i x4)] [] m) {n : Nat} {m : Mem} {x4 : Int32} {s0 : Int32} {s1 : Int32} (hn : n + 7 + f * 7 ≤ N0) (hF : B_L_law_1648 N L xs rec_23 m x4 s0 s1 = some (1, m')) : AW K n 1648 [(0, q_v (.ref b)), (1, q_r 0), (2, q_r 70), (3, q_r 108), (4, q_i x4)] [q_i s0, q_i s1, q_r 0] m := by
  unfold B_L_law_1648 at hF
  refine aw_aloadV_n hK 0 rfl dL_law_1648 ?_
  refine aw_iload hK 4 rfl dL_law_1649 ?_
  refine aw_iconst hK (3) rfl dL_law_1651 ?_
  refine aw_iadd hK dL_law_1652 ?_
  obtain ⟨g286, hF⟩ := gd_some hF
  refine aw_sld hK hL g286 dL_law_1653 ?_
  refine aw_aload_n hK 3 rfl dL_law_1654 ?_
  obtain ⟨r289, m288, h287, hF⟩ := cal_some hF
  refine aw_csW hK hB (as := [q_r 0, q_i s1, q_i s0, q_i (xs (ix (x4 + (3 : Int32)))), q_r 108]) (trW_L_best h287) gL_law_L_best rfl (na := 5) (by decide +kernel) rfl ⟨by decide, by decide⟩ (by omega) (Nat.le_of_ble_eq_true rfl) dL_law_1655 ?_
  refine aw_istore hK [(5, q_i r289), (0, q_v (.ref b)), (1, q_r 0), (2, q_r 70), (3, q_r 108), (4, q_i x4)] (by decide) rfl dL_law_1658 ?_
  refine aw_aload_n hK 3 rfl dL_law_1660 ?_
  refine aw_aloadV_n hK 1 rfl dL_law_1661 ?_
  refine aw_iload hK 5 rfl dL_law_1662 ?_
  refine aw_iconst hK (1) rfl dL_law_1664 ?_
  refine aw_iadd hK dL_law_1665 ?_
  obtain ⟨g290, hF⟩ := gd_some hF
  refine aw_sld hK hL g290 dL_law_1666 ?_
  refine aw_aloadV_n hK 1 rfl dL_law_1667 ?_
  refine aw_iload hK 5 rfl dL_law_1668 ?_
  refine aw_iconst hK (2) rfl dL_law_1670 ?_
  refine aw_iadd hK dL_law_1671 ?_
  obtain ⟨g291, hF⟩ := gd_some hF
  refine aw_sld hK hL g291 dL_law_1672 ?_
  refine aw_if_eq hK 1680 rfl dL_law_1673 (fun hc => ?_) (fun hc => ?_)
  · have hF := if_t hF hc
    refine aw_iconst hK (0) rfl dL_law_1680 ?_
    refine aw_wd (n' := n + 7) (by omega) ?_
    refine aw_sub [1, 2, 3, 4, 5, 0] (lv' := [(0, q_v (.ref b)), (1, q_r 0), (2, q_r 70), (3, q_r 108), (4, q_i x4), (5, q_i r289)]) rfl ?_
    exact bk_L_law_1681 hK hB hL hR hrec_23 (by omega) hF
  · have hF := if_f hF hc
    refine aw_iconst hK (1) rfl dL_law_1676 ?_
    refine aw_goto hK 1681 rfl dL_law_1677 ?_
    refine aw_wd (n' := n + 7) (by omega) ?_
    refine aw_sub [1, 2, 3, 4, 5, 0] (lv' := [(0, q_v (.ref b)), (1, q_r 0), (2, q_r 70), (3, q_r 108), (4, q_i x4), (5, q_i r289)]) rfl ?_
    exact bk_L_law_1681 hK hB hL hR hrec_23 (by omega) hF
def B_L_law_1624 (N : Nat) (rec_23 : Mem → Int32 → Option (Int32 × Mem)) (m : Mem) (x4 : Int32) : Option (Int32 × Mem) :=
  B_L_law_2100 N rec_23 m x4
set_option maxRecDepth 100000 in
set_option maxHeartbeats 40000000 in
theorem bk_L_law_1624 {N b L : Nat} {xs : Nat → Int32} {K : KT} {N0 : Nat} {m' : Mem} {f : Nat} {rec_23 : Mem → Int32 → Option (Int32 × Mem)} (hK : KOK K cL_law 7 RL wsL_law 11 N0 406) (hB : KB K) (hL : KL K b L xs) (hR : KLr K N0) (hrec_23 : ∀ {n : Nat} {m : Mem} {x4 : Int32} (hn : n + f * 7 ≤ N0), rec_23 m x4 = some (1, m') → AW K n 23 [(0, q_v (.ref b)), (1, q_r 0), (2, q_r 70), (3, q_r 108), (4, q_i x4)] [] m) {n : Nat} {m : Mem} {x4 : Int32} (hn : n + 7 + f * 7 ≤ N0) (hF : B_L_law_1624 N rec_23 m x4 = some (1, m')) : AW K (n + 7) 1624 [(0, q_v (.ref b)), (1, q_r 0), (2, q_r 70), (3, q_r 108), (4, q_i x4)] [] m := by
  unfold B_L_law_1624 at hF
  refine aw_goto hK 2100 rfl dL_law_1624 ?_
  refine aw_sub [0, 1, 2, 3, 4] (lv' := [(0, q_v (.ref b)), (1, q_r 0), (2, q_r 70), (3, q_r 108), (4, q_i x4)]) rfl ?_
  exact bk_L_law_2100 hK hB hL hR hrec_23 (by omega) hF
def B_L_law_1591 (N : Nat) (rec_23 : Mem → Int32 → Option (Int32 × Mem)) (m : Mem) (x4 : Int32) (x5 : Int32) (s0 : Int32) (s1 : Int32) : Option (Int32 × Mem) :=
  cal (F_X8_cost N m s1 s0) fun r307 m306 =>
  cal (F_X8_thrown N m306) fun r310 m309 =>
  if r310 = x5 then (
    if x5 = (0 : Int32) then (
      gd (inb (0 : Int32) (alen 108)) <|
      if (lg_cmp (m309 108 (ix (0 : Int32))).toInt64 (r307).toInt64) = (0 : Int32) then (
        B_L_law_1624 N rec_23 m309 x4
      ) else (
        some ((0 : Int32), m309)
      )
    ) else (
      B_L_law_1624 N rec_23 m309 x4
    )
  ) else (
    some ((0 : Int32), m309)
  )
set_option maxRecDepth 100000 in
set_option maxHeartbeats 40000000 in
theorem bk_L_law_1591 {N b L : Nat} {xs : Nat → Int32} {K : KT} {N0 : Nat} {m' : Mem} {f : Nat} {rec_23 : Mem → Int32 → Option (Int32 × Mem)} (hK : KOK K cL_law 7 RL wsL_law 11 N0 406) (hB : KB K) (hL : KL K b L xs) (hR : KLr K N0) (hrec_23 : ∀ {n : Nat} {m : Mem} {x4 : Int32} (hn : n + f * 7 ≤ N0), rec_23 m x4 = some (1, m') → AW K n 23 [(0, q_v (.ref b)), (1, q_r 0), (2, q_r 70), (3, q_r 108), (4, q_i x4)] [] m) {n : Nat} {m : Mem} {x4 : Int32} {x5 : Int32} {s0 : Int32} {s1 : Int32} (hn : n + 7 + f * 7 ≤ N0) (hF : B_L_law_1591 N rec_23 m x4 x5 s0 s1 = some (1, m')) : AW K (n + 7) 1591 [(0, q_v (.ref b)), (1, q_r 0), (2, q_r 70), (3, q_r 108), (4, q_i x4), (5, q_i x5)] [q_i s0, q_i s1, q_r 70] m := by
  unfold B_L_law_1591 at hF
  obtain ⟨r307, m306, h305, hF⟩ := cal_some hF
  refine aw_cv hK 8 (as := [q_i s1, q_i s0]) (tr_X8_cost h305) gL_law_X8_cost rfl rfl rfl (by decide) (na := 2) (by decide +kernel) rfl ⟨by decide, by decide⟩ (by omega) (Nat.le_of_ble_eq_true rfl) dL_law_1591 ?_
  refine aw_istore hK [(6, q_i r307), (0, q_v (.ref b)), (1, q_r 0), (2, q_r 70), (3, q_r 108), (4, q_i x4), (5, q_i x5)] (by decide) rfl dL_law_1594 ?_
  refine aw_aload_n hK 3 rfl dL_law_1596 ?_
  obtain ⟨r310, m309, h308, hF⟩ := cal_some hF
  refine aw_cv hK 8 (as := []) (tr_X8_thrown h308) gL_law_X8_thrown rfl rfl rfl (by decide) (na := 0) (by decide +kernel) rfl ⟨by decide, by decide⟩ (by omega) (Nat.le_of_ble_eq_true rfl) dL_law_1597 ?_
  refine aw_iload hK 6 rfl dL_law_1600 ?_
  refine aw_icmp_eq hK 1607 rfl dL_law_1602 (fun hc => ?_) (fun hc => ?_)
  · have hF := if_t hF hc
    refine aw_iload hK 6 rfl dL_law_1607 ?_
    refine aw_if_ne hK 1624 rfl dL_law_1609 (fun hc => ?_) (fun hc => ?_)
    · have hF := if_f hF hc
      refine aw_sub [1, 2, 3, 4, 5] (lv' := [(0, q_v (.ref b)), (1, q_r 0), (2, q_r 70), (3, q_r 108), (4, q_i x4)]) rfl ?_
      exact bk_L_law_1624 hK hB hL hR hrec_23 (by omega) hF
    · have hF := if_t hF hc
      refine aw_aload_n hK 4 rfl dL_law_1612 ?_
      refine aw_iconst hK (0) rfl dL_law_1613 ?_
      obtain ⟨g311, hF⟩ := gd_some hF
      refine aw_lald hK rfl g311 dL_law_1614 ?_
      refine aw_iload hK 0 rfl dL_law_1615 ?_
      refine aw_i2l hK dL_law_1617 ?_
      refine aw_lcmp hK dL_law_1618 ?_
      refine aw_if_eq hK 1624 rfl dL_law_1619 (fun hc => ?_) (fun hc => ?_)
      · have hF := if_t hF hc
        refine aw_sub [1, 2, 3, 4, 5] (lv' := [(0, q_v (.ref b)), (1, q_r 0), (2, q_r 70), (3, q_r 108), (4, q_i x4)]) rfl ?_
        exact bk_L_law_1624 hK hB hL hR hrec_23 (by omega) hF
      · have hF := if_f hF hc
        refine aw_iconst hK (0) rfl dL_law_1622 ?_
        obtain ⟨e1, rfl⟩ := so_inj hF
        exact absurd e1 (by decide)
  · have hF := if_f hF hc
    refine aw_iconst hK (0) rfl dL_law_1605 ?_
    obtain ⟨e1, rfl⟩ := so_inj hF
    exact absurd e1 (by decide)
def B_L_law_1564 (N L : Nat) (xs : Nat → Int32) (rec_23 : Mem → Int32 → Option (Int32 × Mem)) (m : Mem) (x4 : Int32) (s0 : Int32) (s1 : Int32) : Option (Int32 × Mem) :=
  cal (F_L_cost N m s1 s0) fun r302 m301 =>
  gd (inb (x4 + (1 : Int32)) L) <|
  gd (inb (x4 + (2 : Int32)) L) <|
  if (xs (ix (x4 + (2 : Int32)))) = (0 : Int32) then (
    B_L_law_1591 N rec_23 m301 x4 r302 (0 : Int32) (xs (ix (x4 + (1 : Int32))))
  ) else (
    B_L_law_1591 N rec_23 m301 x4 r302 (1 : Int32) (xs (ix (x4 + (1 : Int32))))
  )
set_option maxRecDepth 100000 in
set_option maxHeartbeats 40000000 in
theorem bk_L_law_1564 {N b L : Nat} {xs : Nat → Int32} {K : KT} {N0 : Nat} {m' : Mem} {f : Nat} {rec_23 : Mem → Int32 → Option (Int32 × Mem)} (hK : KOK K cL_law 7 RL wsL_law 11 N0 406) (hB : KB K) (hL : KL K b L xs) (hR : KLr K N0) (hrec_23 : ∀ {n : Nat} {m : Mem} {x4 : Int32} (hn : n + f * 7 ≤ N0), rec_23 m x4 = some (1, m') → AW K n 23 [(0, q_v (.ref b)), (1, q_r 0), (2, q_r 70), (3, q_r 108), (4, q_i x4)] [] m) {n : Nat} {m : Mem} {x4 : Int32} {s0 : Int32} {s1 : Int32} (hn : n + 7 + f * 7 ≤ N0) (hF : B_L_law_1564 N L xs rec_23 m x4 s0 s1 = some (1, m')) : AW K n 1564 [(0, q_v (.ref b)), (1, q_r 0), (2, q_r 70), (3, q_r 108), (4, q_i x4)] [q_i s0, q_i s1, q_r 0] m := by
  unfold B_L_law_1564 at hF
  refine aw_aload_n hK 3 rfl dL_law_1564 ?_
  obtain ⟨r302, m301, h300, hF⟩ := cal_some hF
  refine aw_csW hK hB (as := [q_r 0, q_i s1, q_i s0, q_r 108]) (trW_L_cost h300) gL_law_L_cost rfl (na := 4) (by decide +kernel) rfl ⟨by decide, by decide⟩ (by omega) (Nat.le_of_ble_eq_true rfl) dL_law_1565 ?_
  refine aw_istore hK [(5, q_i r302), (0, q_v (.ref b)), (1, q_r 0), (2, q_r 70), (3, q_r 108), (4, q_i x4)] (by decide) rfl dL_law_1568 ?_
  refine aw_aload_n hK 3 rfl dL_law_1570 ?_
  refine aw_aloadV_n hK 1 rfl dL_law_1571 ?_
  refine aw_iload hK 5 rfl dL_law_1572 ?_
  refine aw_iconst hK (1) rfl dL_law_1574 ?_
  refine aw_iadd hK dL_law_1575 ?_
  obtain ⟨g303, hF⟩ := gd_some hF
  refine aw_sld hK hL g303 dL_law_1576 ?_
  refine aw_aloadV_n hK 1 rfl dL_law_1577 ?_
  refine aw_iload hK 5 rfl dL_law_1578 ?_
  refine aw_iconst hK (2) rfl dL_law_1580 ?_
  refine aw_iadd hK dL_law_1581 ?_
  obtain ⟨g304, hF⟩ := gd_some hF
  refine aw_sld hK hL g304 dL_law_1582 ?_
  refine aw_if_eq hK 1590 rfl dL_law_1583 (fun hc => ?_) (fun hc => ?_)
  · have hF := if_t hF hc
    refine aw_iconst hK (0) rfl dL_law_1590 ?_
    refine aw_wd (n' := n + 7) (by omega) ?_
    refine aw_sub [1, 2, 3, 4, 5, 0] (lv' := [(0, q_v (.ref b)), (1, q_r 0), (2, q_r 70), (3, q_r 108), (4, q_i x4), (5, q_i r302)]) rfl ?_
    exact bk_L_law_1591 hK hB hL hR hrec_23 (by omega) hF
  · have hF := if_f hF hc
    refine aw_iconst hK (1) rfl dL_law_1586 ?_
    refine aw_goto hK 1591 rfl dL_law_1587 ?_
    refine aw_wd (n' := n + 7) (by omega) ?_
    refine aw_sub [1, 2, 3, 4, 5, 0] (lv' := [(0, q_v (.ref b)), (1, q_r 0), (2, q_r 70), (3, q_r 108), (4, q_i x4), (5, q_i r302)]) rfl ?_
    exact bk_L_law_1591 hK hB hL hR hrec_23 (by omega) hF
def B_L_law_1540 (N : Nat) (rec_23 : Mem → Int32 → Option (Int32 × Mem)) (m : Mem) (x4 : Int32) : Option (Int32 × Mem) :=
  B_L_law_2100 N rec_23 m x4
set_option maxRecDepth 100000 in
set_option maxHeartbeats 40000000 in
theorem bk_L_law_1540 {N b L : Nat} {xs : Nat → Int32} {K : KT} {N0 : Nat} {m' : Mem} {f : Nat} {rec_23 : Mem → Int32 → Option (Int32 × Mem)} (hK : KOK K cL_law 7 RL wsL_law 11 N0 406) (hB : KB K) (hL : KL K b L xs) (hR : KLr K N0) (hrec_23 : ∀ {n : Nat} {m : Mem} {x4 : Int32} (hn : n + f * 7 ≤ N0), rec_23 m x4 = some (1, m') → AW K n 23 [(0, q_v (.ref b)), (1, q_r 0), (2, q_r 70), (3, q_r 108), (4, q_i x4)] [] m) {n : Nat} {m : Mem} {x4 : Int32} (hn : n + 7 + f * 7 ≤ N0) (hF : B_L_law_1540 N rec_23 m x4 = some (1, m')) : AW K (n + 7) 1540 [(0, q_v (.ref b)), (1, q_r 0), (2, q_r 70), (3, q_r 108), (4, q_i x4)] [] m := by
  unfold B_L_law_1540 at hF
  refine aw_goto hK 2100 rfl dL_law_1540 ?_
  refine aw_sub [0, 1, 2, 3, 4] (lv' := [(0, q_v (.ref b)), (1, q_r 0), (2, q_r 70), (3, q_r 108), (4, q_i x4)]) rfl ?_
  exact bk_L_law_2100 hK hB hL hR hrec_23 (by omega) hF
def B_L_law_1507 (N : Nat) (rec_23 : Mem → Int32 → Option (Int32 × Mem)) (m : Mem) (x4 : Int32) (x5 : Int32) (s0 : Int32) (s1 : Int32) : Option (Int32 × Mem) :=
  cal (F_X8_answers N m s1 s0) fun r319 m318 =>
  cal (F_X8_thrown N m318) fun r322 m321 =>
  if r322 = x5 then (
    if x5 = (0 : Int32) then (
      gd (inb (0 : Int32) (alen 108)) <|
      if (lg_cmp (m321 108 (ix (0 : Int32))).toInt64 (r319).toInt64) = (0 : Int32) then (
        B_L_law_1540 N rec_23 m321 x4
      ) else (
        some ((0 : Int32), m321)
      )
    ) else (
      B_L_law_1540 N rec_23 m321 x4
    )
  ) else (
    some ((0 : Int32), m321)
  )
set_option maxRecDepth 100000 in
set_option maxHeartbeats 40000000 in
theorem bk_L_law_1507 {N b L : Nat} {xs : Nat → Int32} {K : KT} {N0 : Nat} {m' : Mem} {f : Nat} {rec_23 : Mem → Int32 → Option (Int32 × Mem)} (hK : KOK K cL_law 7 RL wsL_law 11 N0 406) (hB : KB K) (hL : KL K b L xs) (hR : KLr K N0) (hrec_23 : ∀ {n : Nat} {m : Mem} {x4 : Int32} (hn : n + f * 7 ≤ N0), rec_23 m x4 = some (1, m') → AW K n 23 [(0, q_v (.ref b)), (1, q_r 0), (2, q_r 70), (3, q_r 108), (4, q_i x4)] [] m) {n : Nat} {m : Mem} {x4 : Int32} {x5 : Int32} {s0 : Int32} {s1 : Int32} (hn : n + 7 + f * 7 ≤ N0) (hF : B_L_law_1507 N rec_23 m x4 x5 s0 s1 = some (1, m')) : AW K (n + 7) 1507 [(0, q_v (.ref b)), (1, q_r 0), (2, q_r 70), (3, q_r 108), (4, q_i x4), (5, q_i x5)] [q_i s0, q_i s1, q_r 70] m := by
  unfold B_L_law_1507 at hF
  obtain ⟨r319, m318, h317, hF⟩ := cal_some hF
  refine aw_cv hK 8 (as := [q_i s1, q_i s0]) (tr_X8_answers h317) gL_law_X8_answers rfl rfl rfl (by decide) (na := 2) (by decide +kernel) rfl ⟨by decide, by decide⟩ (by omega) (Nat.le_of_ble_eq_true rfl) dL_law_1507 ?_
  refine aw_istore hK [(6, q_i r319), (0, q_v (.ref b)), (1, q_r 0), (2, q_r 70), (3, q_r 108), (4, q_i x4), (5, q_i x5)] (by decide) rfl dL_law_1510 ?_
  refine aw_aload_n hK 3 rfl dL_law_1512 ?_
  obtain ⟨r322, m321, h320, hF⟩ := cal_some hF
  refine aw_cv hK 8 (as := []) (tr_X8_thrown h320) gL_law_X8_thrown rfl rfl rfl (by decide) (na := 0) (by decide +kernel) rfl ⟨by decide, by decide⟩ (by omega) (Nat.le_of_ble_eq_true rfl) dL_law_1513 ?_
  refine aw_iload hK 6 rfl dL_law_1516 ?_
  refine aw_icmp_eq hK 1523 rfl dL_law_1518 (fun hc => ?_) (fun hc => ?_)
  · have hF := if_t hF hc
    refine aw_iload hK 6 rfl dL_law_1523 ?_
    refine aw_if_ne hK 1540 rfl dL_law_1525 (fun hc => ?_) (fun hc => ?_)
    · have hF := if_f hF hc
      refine aw_sub [1, 2, 3, 4, 5] (lv' := [(0, q_v (.ref b)), (1, q_r 0), (2, q_r 70), (3, q_r 108), (4, q_i x4)]) rfl ?_
      exact bk_L_law_1540 hK hB hL hR hrec_23 (by omega) hF
    · have hF := if_t hF hc
      refine aw_aload_n hK 4 rfl dL_law_1528 ?_
      refine aw_iconst hK (0) rfl dL_law_1529 ?_
      obtain ⟨g323, hF⟩ := gd_some hF
      refine aw_lald hK rfl g323 dL_law_1530 ?_
      refine aw_iload hK 0 rfl dL_law_1531 ?_
      refine aw_i2l hK dL_law_1533 ?_
      refine aw_lcmp hK dL_law_1534 ?_
      refine aw_if_eq hK 1540 rfl dL_law_1535 (fun hc => ?_) (fun hc => ?_)
      · have hF := if_t hF hc
        refine aw_sub [1, 2, 3, 4, 5] (lv' := [(0, q_v (.ref b)), (1, q_r 0), (2, q_r 70), (3, q_r 108), (4, q_i x4)]) rfl ?_
        exact bk_L_law_1540 hK hB hL hR hrec_23 (by omega) hF
      · have hF := if_f hF hc
        refine aw_iconst hK (0) rfl dL_law_1538 ?_
        obtain ⟨e1, rfl⟩ := so_inj hF
        exact absurd e1 (by decide)
  · have hF := if_f hF hc
    refine aw_iconst hK (0) rfl dL_law_1521 ?_
    obtain ⟨e1, rfl⟩ := so_inj hF
    exact absurd e1 (by decide)
def B_L_law_1480 (N L : Nat) (xs : Nat → Int32) (rec_23 : Mem → Int32 → Option (Int32 × Mem)) (m : Mem) (x4 : Int32) (s0 : Int32) (s1 : Int32) : Option (Int32 × Mem) :=
  cal (F_L_answers N m s1 s0) fun r314 m313 =>
  gd (inb (x4 + (1 : Int32)) L) <|
  gd (inb (x4 + (2 : Int32)) L) <|
  if (xs (ix (x4 + (2 : Int32)))) = (0 : Int32) then (
    B_L_law_1507 N rec_23 m313 x4 r314 (0 : Int32) (xs (ix (x4 + (1 : Int32))))
  ) else (
    B_L_law_1507 N rec_23 m313 x4 r314 (1 : Int32) (xs (ix (x4 + (1 : Int32))))
  )
set_option maxRecDepth 100000 in
set_option maxHeartbeats 40000000 in
theorem bk_L_law_1480 {N b L : Nat} {xs : Nat → Int32} {K : KT} {N0 : Nat} {m' : Mem} {f : Nat} {rec_23 : Mem → Int32 → Option (Int32 × Mem)} (hK : KOK K cL_law 7 RL wsL_law 11 N0 406) (hB : KB K) (hL : KL K b L xs) (hR : KLr K N0) (hrec_23 : ∀ {n : Nat} {m : Mem} {x4 : Int32} (hn : n + f * 7 ≤ N0), rec_23 m x4 = some (1, m') → AW K n 23 [(0, q_v (.ref b)), (1, q_r 0), (2, q_r 70), (3, q_r 108), (4, q_i x4)] [] m) {n : Nat} {m : Mem} {x4 : Int32} {s0 : Int32} {s1 : Int32} (hn : n + 7 + f * 7 ≤ N0) (hF : B_L_law_1480 N L xs rec_23 m x4 s0 s1 = some (1, m')) : AW K n 1480 [(0, q_v (.ref b)), (1, q_r 0), (2, q_r 70), (3, q_r 108), (4, q_i x4)] [q_i s0, q_i s1, q_r 0] m := by
  unfold B_L_law_1480 at hF
  refine aw_aload_n hK 3 rfl dL_law_1480 ?_
  obtain ⟨r314, m313, h312, hF⟩ := cal_some hF
  refine aw_csW hK hB (as := [q_r 0, q_i s1, q_i s0, q_r 108]) (trW_L_answers h312) gL_law_L_answers rfl (na := 4) (by decide +kernel) rfl ⟨by decide, by decide⟩ (by omega) (Nat.le_of_ble_eq_true rfl) dL_law_1481 ?_
  refine aw_istore hK [(5, q_i r314), (0, q_v (.ref b)), (1, q_r 0), (2, q_r 70), (3, q_r 108), (4, q_i x4)] (by decide) rfl dL_law_1484 ?_
  refine aw_aload_n hK 3 rfl dL_law_1486 ?_
  refine aw_aloadV_n hK 1 rfl dL_law_1487 ?_
  refine aw_iload hK 5 rfl dL_law_1488 ?_
  refine aw_iconst hK (1) rfl dL_law_1490 ?_
  refine aw_iadd hK dL_law_1491 ?_
  obtain ⟨g315, hF⟩ := gd_some hF
  refine aw_sld hK hL g315 dL_law_1492 ?_
  refine aw_aloadV_n hK 1 rfl dL_law_1493 ?_
  refine aw_iload hK 5 rfl dL_law_1494 ?_
  refine aw_iconst hK (2) rfl dL_law_1496 ?_
  refine aw_iadd hK dL_law_1497 ?_
  obtain ⟨g316, hF⟩ := gd_some hF
  refine aw_sld hK hL g316 dL_law_1498 ?_
  refine aw_if_eq hK 1506 rfl dL_law_1499 (fun hc => ?_) (fun hc => ?_)
  · have hF := if_t hF hc
    refine aw_iconst hK (0) rfl dL_law_1506 ?_
    refine aw_wd (n' := n + 7) (by omega) ?_
    refine aw_sub [1, 2, 3, 4, 5, 0] (lv' := [(0, q_v (.ref b)), (1, q_r 0), (2, q_r 70), (3, q_r 108), (4, q_i x4), (5, q_i r314)]) rfl ?_
    exact bk_L_law_1507 hK hB hL hR hrec_23 (by omega) hF
  · have hF := if_f hF hc
    refine aw_iconst hK (1) rfl dL_law_1502 ?_
    refine aw_goto hK 1507 rfl dL_law_1503 ?_
    refine aw_wd (n' := n + 7) (by omega) ?_
    refine aw_sub [1, 2, 3, 4, 5, 0] (lv' := [(0, q_v (.ref b)), (1, q_r 0), (2, q_r 70), (3, q_r 108), (4, q_i x4), (5, q_i r314)]) rfl ?_
    exact bk_L_law_1507 hK hB hL hR hrec_23 (by omega) hF
def B_L_law_1456 (N : Nat) (rec_23 : Mem → Int32 → Option (Int32 × Mem)) (m : Mem) (x4 : Int32) : Option (Int32 × Mem) :=
  B_L_law_2100 N rec_23 m x4
set_option maxRecDepth 100000 in
set_option maxHeartbeats 40000000 in
theorem bk_L_law_1456 {N b L : Nat} {xs : Nat → Int32} {K : KT} {N0 : Nat} {m' : Mem} {f : Nat} {rec_23 : Mem → Int32 → Option (Int32 × Mem)} (hK : KOK K cL_law 7 RL wsL_law 11 N0 406) (hB : KB K) (hL : KL K b L xs) (hR : KLr K N0) (hrec_23 : ∀ {n : Nat} {m : Mem} {x4 : Int32} (hn : n + f * 7 ≤ N0), rec_23 m x4 = some (1, m') → AW K n 23 [(0, q_v (.ref b)), (1, q_r 0), (2, q_r 70), (3, q_r 108), (4, q_i x4)] [] m) {n : Nat} {m : Mem} {x4 : Int32} (hn : n + 7 + f * 7 ≤ N0) (hF : B_L_law_1456 N rec_23 m x4 = some (1, m')) : AW K (n + 7) 1456 [(0, q_v (.ref b)), (1, q_r 0), (2, q_r 70), (3, q_r 108), (4, q_i x4)] [] m := by
  unfold B_L_law_1456 at hF
  refine aw_goto hK 2100 rfl dL_law_1456 ?_
  refine aw_sub [0, 1, 2, 3, 4] (lv' := [(0, q_v (.ref b)), (1, q_r 0), (2, q_r 70), (3, q_r 108), (4, q_i x4)]) rfl ?_
  exact bk_L_law_2100 hK hB hL hR hrec_23 (by omega) hF
def B_L_law_1411 (N L : Nat) (xs : Nat → Int32) (rec_23 : Mem → Int32 → Option (Int32 × Mem)) (m : Mem) (x4 : Int32) (x5 : Int32) (s0 : Int32) (s1 : Int32) : Option (Int32 × Mem) :=
  gd (inb (x4 + (3 : Int32)) L) <|
  gd (inb (x4 + (4 : Int32)) L) <|
  cal (F_X8_answer N m s1 s0 (xs (ix (x4 + (3 : Int32)))) (xs (ix (x4 + (4 : Int32))))) fun r335 m334 =>
  cal (F_X8_thrown N m334) fun r338 m337 =>
  if r338 = x5 then (
    if x5 = (0 : Int32) then (
      gd (inb (0 : Int32) (alen 108)) <|
      if (lg_cmp (m337 108 (ix (0 : Int32))).toInt64 (r335).toInt64) = (0 : Int32) then (
        B_L_law_1456 N rec_23 m337 x4
      ) else (
        some ((0 : Int32), m337)
      )
    ) else (
      B_L_law_1456 N rec_23 m337 x4
    )
  ) else (
    some ((0 : Int32), m337)
  )
set_option maxRecDepth 100000 in
set_option maxHeartbeats 40000000 in
theorem bk_L_law_1411 {N b L : Nat} {xs : Nat → Int32} {K : KT} {N0 : Nat} {m' : Mem} {f : Nat} {rec_23 : Mem → Int32 → Option (Int32 × Mem)} (hK : KOK K cL_law 7 RL wsL_law 11 N0 406) (hB : KB K) (hL : KL K b L xs) (hR : KLr K N0) (hrec_23 : ∀ {n : Nat} {m : Mem} {x4 : Int32} (hn : n + f * 7 ≤ N0), rec_23 m x4 = some (1, m') → AW K n 23 [(0, q_v (.ref b)), (1, q_r 0), (2, q_r 70), (3, q_r 108), (4, q_i x4)] [] m) {n : Nat} {m : Mem} {x4 : Int32} {x5 : Int32} {s0 : Int32} {s1 : Int32} (hn : n + 7 + f * 7 ≤ N0) (hF : B_L_law_1411 N L xs rec_23 m x4 x5 s0 s1 = some (1, m')) : AW K (n + 7) 1411 [(0, q_v (.ref b)), (1, q_r 0), (2, q_r 70), (3, q_r 108), (4, q_i x4), (5, q_i x5)] [q_i s0, q_i s1, q_r 70] m := by
  unfold B_L_law_1411 at hF
  refine aw_aloadV_n hK 0 rfl dL_law_1411 ?_
  refine aw_iload hK 4 rfl dL_law_1412 ?_
  refine aw_iconst hK (3) rfl dL_law_1414 ?_
  refine aw_iadd hK dL_law_1415 ?_
  obtain ⟨g331, hF⟩ := gd_some hF
  refine aw_sld hK hL g331 dL_law_1416 ?_
  refine aw_aloadV_n hK 0 rfl dL_law_1417 ?_
  refine aw_iload hK 4 rfl dL_law_1418 ?_
  refine aw_iconst hK (4) rfl dL_law_1420 ?_
  refine aw_iadd hK dL_law_1421 ?_
  obtain ⟨g332, hF⟩ := gd_some hF
  refine aw_sld hK hL g332 dL_law_1422 ?_
  obtain ⟨r335, m334, h333, hF⟩ := cal_some hF
  refine aw_cv hK 8 (as := [q_i s1, q_i s0, q_i (xs (ix (x4 + (3 : Int32)))), q_i (xs (ix (x4 + (4 : Int32))))]) (tr_X8_answer h333) gL_law_X8_answer rfl rfl rfl (by decide) (na := 4) (by decide +kernel) rfl ⟨by decide, by decide⟩ (by omega) (Nat.le_of_ble_eq_true rfl) dL_law_1423 ?_
  refine aw_istore hK [(6, q_i r335), (0, q_v (.ref b)), (1, q_r 0), (2, q_r 70), (3, q_r 108), (4, q_i x4), (5, q_i x5)] (by decide) rfl dL_law_1426 ?_
  refine aw_aload_n hK 3 rfl dL_law_1428 ?_
  obtain ⟨r338, m337, h336, hF⟩ := cal_some hF
  refine aw_cv hK 8 (as := []) (tr_X8_thrown h336) gL_law_X8_thrown rfl rfl rfl (by decide) (na := 0) (by decide +kernel) rfl ⟨by decide, by decide⟩ (by omega) (Nat.le_of_ble_eq_true rfl) dL_law_1429 ?_
  refine aw_iload hK 6 rfl dL_law_1432 ?_
  refine aw_icmp_eq hK 1439 rfl dL_law_1434 (fun hc => ?_) (fun hc => ?_)
  · have hF := if_t hF hc
    refine aw_iload hK 6 rfl dL_law_1439 ?_
    refine aw_if_ne hK 1456 rfl dL_law_1441 (fun hc => ?_) (fun hc => ?_)
    · have hF := if_f hF hc
      refine aw_sub [1, 2, 3, 4, 5] (lv' := [(0, q_v (.ref b)), (1, q_r 0), (2, q_r 70), (3, q_r 108), (4, q_i x4)]) rfl ?_
      exact bk_L_law_1456 hK hB hL hR hrec_23 (by omega) hF
    · have hF := if_t hF hc
      refine aw_aload_n hK 4 rfl dL_law_1444 ?_
      refine aw_iconst hK (0) rfl dL_law_1445 ?_
      obtain ⟨g339, hF⟩ := gd_some hF
      refine aw_lald hK rfl g339 dL_law_1446 ?_
      refine aw_iload hK 0 rfl dL_law_1447 ?_
      refine aw_i2l hK dL_law_1449 ?_
      refine aw_lcmp hK dL_law_1450 ?_
      refine aw_if_eq hK 1456 rfl dL_law_1451 (fun hc => ?_) (fun hc => ?_)
      · have hF := if_t hF hc
        refine aw_sub [1, 2, 3, 4, 5] (lv' := [(0, q_v (.ref b)), (1, q_r 0), (2, q_r 70), (3, q_r 108), (4, q_i x4)]) rfl ?_
        exact bk_L_law_1456 hK hB hL hR hrec_23 (by omega) hF
      · have hF := if_f hF hc
        refine aw_iconst hK (0) rfl dL_law_1454 ?_
        obtain ⟨e1, rfl⟩ := so_inj hF
        exact absurd e1 (by decide)
  · have hF := if_f hF hc
    refine aw_iconst hK (0) rfl dL_law_1437 ?_
    obtain ⟨e1, rfl⟩ := so_inj hF
    exact absurd e1 (by decide)
def B_L_law_1372 (N L : Nat) (xs : Nat → Int32) (rec_23 : Mem → Int32 → Option (Int32 × Mem)) (m : Mem) (x4 : Int32) (s0 : Int32) (s1 : Int32) : Option (Int32 × Mem) :=
  gd (inb (x4 + (3 : Int32)) L) <|
  gd (inb (x4 + (4 : Int32)) L) <|
  cal (F_L_answer N m s1 s0 (xs (ix (x4 + (3 : Int32)))) (xs (ix (x4 + (4 : Int32))))) fun r328 m327 =>
  gd (inb (x4 + (1 : Int32)) L) <|
  gd (inb (x4 + (2 : Int32)) L) <|
  if (xs (ix (x4 + (2 : Int32)))) = (0 : Int32) then (
    B_L_law_1411 N L xs rec_23 m327 x4 r328 (0 : Int32) (xs (ix (x4 + (1 : Int32))))
  ) else (
    B_L_law_1411 N L xs rec_23 m327 x4 r328 (1 : Int32) (xs (ix (x4 + (1 : Int32))))
  )
set_option maxRecDepth 100000 in
set_option maxHeartbeats 40000000 in
theorem bk_L_law_1372 {N b L : Nat} {xs : Nat → Int32} {K : KT} {N0 : Nat} {m' : Mem} {f : Nat} {rec_23 : Mem → Int32 → Option (Int32 × Mem)} (hK : KOK K cL_law 7 RL wsL_law 11 N0 406) (hB : KB K) (hL : KL K b L xs) (hR : KLr K N0) (hrec_23 : ∀ {n : Nat} {m : Mem} {x4 : Int32} (hn : n + f * 7 ≤ N0), rec_23 m x4 = some (1, m') → AW K n 23 [(0, q_v (.ref b)), (1, q_r 0), (2, q_r 70), (3, q_r 108), (4, q_i x4)] [] m) {n : Nat} {m : Mem} {x4 : Int32} {s0 : Int32} {s1 : Int32} (hn : n + 7 + f * 7 ≤ N0) (hF : B_L_law_1372 N L xs rec_23 m x4 s0 s1 = some (1, m')) : AW K n 1372 [(0, q_v (.ref b)), (1, q_r 0), (2, q_r 70), (3, q_r 108), (4, q_i x4)] [q_i s0, q_i s1, q_r 0] m := by
  unfold B_L_law_1372 at hF
  refine aw_aloadV_n hK 0 rfl dL_law_1372 ?_
  refine aw_iload hK 4 rfl dL_law_1373 ?_
  refine aw_iconst hK (3) rfl dL_law_1375 ?_
  refine aw_iadd hK dL_law_1376 ?_
  obtain ⟨g324, hF⟩ := gd_some hF
  refine aw_sld hK hL g324 dL_law_1377 ?_
  refine aw_aloadV_n hK 0 rfl dL_law_1378 ?_
  refine aw_iload hK 4 rfl dL_law_1379 ?_
  refine aw_iconst hK (4) rfl dL_law_1381 ?_
  refine aw_iadd hK dL_law_1382 ?_
  obtain ⟨g325, hF⟩ := gd_some hF
  refine aw_sld hK hL g325 dL_law_1383 ?_
  refine aw_aload_n hK 3 rfl dL_law_1384 ?_
  obtain ⟨r328, m327, h326, hF⟩ := cal_some hF
  refine aw_csW hK hB (as := [q_r 0, q_i s1, q_i s0, q_i (xs (ix (x4 + (3 : Int32)))), q_i (xs (ix (x4 + (4 : Int32)))), q_r 108]) (trW_L_answer h326) gL_law_L_answer rfl (na := 6) (by decide +kernel) rfl ⟨by decide, by decide⟩ (by omega) (Nat.le_of_ble_eq_true rfl) dL_law_1385 ?_
  refine aw_istore hK [(5, q_i r328), (0, q_v (.ref b)), (1, q_r 0), (2, q_r 70), (3, q_r 108), (4, q_i x4)] (by decide) rfl dL_law_1388 ?_
  refine aw_aload_n hK 3 rfl dL_law_1390 ?_
  refine aw_aloadV_n hK 1 rfl dL_law_1391 ?_
  refine aw_iload hK 5 rfl dL_law_1392 ?_
  refine aw_iconst hK (1) rfl dL_law_1394 ?_
  refine aw_iadd hK dL_law_1395 ?_
  obtain ⟨g329, hF⟩ := gd_some hF
  refine aw_sld hK hL g329 dL_law_1396 ?_
  refine aw_aloadV_n hK 1 rfl dL_law_1397 ?_
  refine aw_iload hK 5 rfl dL_law_1398 ?_
  refine aw_iconst hK (2) rfl dL_law_1400 ?_
  refine aw_iadd hK dL_law_1401 ?_
  obtain ⟨g330, hF⟩ := gd_some hF
  refine aw_sld hK hL g330 dL_law_1402 ?_
  refine aw_if_eq hK 1410 rfl dL_law_1403 (fun hc => ?_) (fun hc => ?_)
  · have hF := if_t hF hc
    refine aw_iconst hK (0) rfl dL_law_1410 ?_
    refine aw_wd (n' := n + 7) (by omega) ?_
    refine aw_sub [1, 2, 3, 4, 5, 0] (lv' := [(0, q_v (.ref b)), (1, q_r 0), (2, q_r 70), (3, q_r 108), (4, q_i x4), (5, q_i r328)]) rfl ?_
    exact bk_L_law_1411 hK hB hL hR hrec_23 (by omega) hF
  · have hF := if_f hF hc
    refine aw_iconst hK (1) rfl dL_law_1406 ?_
    refine aw_goto hK 1411 rfl dL_law_1407 ?_
    refine aw_wd (n' := n + 7) (by omega) ?_
    refine aw_sub [1, 2, 3, 4, 5, 0] (lv' := [(0, q_v (.ref b)), (1, q_r 0), (2, q_r 70), (3, q_r 108), (4, q_i x4), (5, q_i r328)]) rfl ?_
    exact bk_L_law_1411 hK hB hL hR hrec_23 (by omega) hF
def B_L_law_1348 (N : Nat) (rec_23 : Mem → Int32 → Option (Int32 × Mem)) (m : Mem) (x4 : Int32) : Option (Int32 × Mem) :=
  B_L_law_2100 N rec_23 m x4
set_option maxRecDepth 100000 in
set_option maxHeartbeats 40000000 in
theorem bk_L_law_1348 {N b L : Nat} {xs : Nat → Int32} {K : KT} {N0 : Nat} {m' : Mem} {f : Nat} {rec_23 : Mem → Int32 → Option (Int32 × Mem)} (hK : KOK K cL_law 7 RL wsL_law 11 N0 406) (hB : KB K) (hL : KL K b L xs) (hR : KLr K N0) (hrec_23 : ∀ {n : Nat} {m : Mem} {x4 : Int32} (hn : n + f * 7 ≤ N0), rec_23 m x4 = some (1, m') → AW K n 23 [(0, q_v (.ref b)), (1, q_r 0), (2, q_r 70), (3, q_r 108), (4, q_i x4)] [] m) {n : Nat} {m : Mem} {x4 : Int32} (hn : n + 7 + f * 7 ≤ N0) (hF : B_L_law_1348 N rec_23 m x4 = some (1, m')) : AW K (n + 7) 1348 [(0, q_v (.ref b)), (1, q_r 0), (2, q_r 70), (3, q_r 108), (4, q_i x4)] [] m := by
  unfold B_L_law_1348 at hF
  refine aw_goto hK 2100 rfl dL_law_1348 ?_
  refine aw_sub [0, 1, 2, 3, 4] (lv' := [(0, q_v (.ref b)), (1, q_r 0), (2, q_r 70), (3, q_r 108), (4, q_i x4)]) rfl ?_
  exact bk_L_law_2100 hK hB hL hR hrec_23 (by omega) hF
def B_L_law_1342 (N : Nat) (rec_23 : Mem → Int32 → Option (Int32 × Mem)) (m : Mem) (x4 : Int32) (s0 : Int32) (s1 : Int32) : Option (Int32 × Mem) :=
  if (lg_cmp (s1).toInt64 (s0).toInt64) = (0 : Int32) then (
    B_L_law_1348 N rec_23 m x4
  ) else (
    some ((0 : Int32), m)
  )
set_option maxRecDepth 100000 in
set_option maxHeartbeats 40000000 in
theorem bk_L_law_1342 {N b L : Nat} {xs : Nat → Int32} {K : KT} {N0 : Nat} {m' : Mem} {f : Nat} {rec_23 : Mem → Int32 → Option (Int32 × Mem)} (hK : KOK K cL_law 7 RL wsL_law 11 N0 406) (hB : KB K) (hL : KL K b L xs) (hR : KLr K N0) (hrec_23 : ∀ {n : Nat} {m : Mem} {x4 : Int32} (hn : n + f * 7 ≤ N0), rec_23 m x4 = some (1, m') → AW K n 23 [(0, q_v (.ref b)), (1, q_r 0), (2, q_r 70), (3, q_r 108), (4, q_i x4)] [] m) {n : Nat} {m : Mem} {x4 : Int32} {s0 : Int32} {s1 : Int32} (hn : n + 7 + f * 7 ≤ N0) (hF : B_L_law_1342 N rec_23 m x4 s0 s1 = some (1, m')) : AW K (n + 7) 1342 [(0, q_v (.ref b)), (1, q_r 0), (2, q_r 70), (3, q_r 108), (4, q_i x4)] [q_v (.long s0.toInt64), q_v (.long s1.toInt64)] m := by
  unfold B_L_law_1342 at hF
  refine aw_lcmp hK dL_law_1342 ?_
  refine aw_if_eq hK 1348 rfl dL_law_1343 (fun hc => ?_) (fun hc => ?_)
  · have hF := if_t hF hc
    refine aw_sub [0, 1, 2, 3, 4] (lv' := [(0, q_v (.ref b)), (1, q_r 0), (2, q_r 70), (3, q_r 108), (4, q_i x4)]) rfl ?_
    exact bk_L_law_1348 hK hB hL hR hrec_23 (by omega) hF
  · have hF := if_f hF hc
    refine aw_iconst hK (0) rfl dL_law_1346 ?_
    obtain ⟨e1, rfl⟩ := so_inj hF
    exact absurd e1 (by decide)
def B_L_law_1285 (N : Nat) (rec_23 : Mem → Int32 → Option (Int32 × Mem)) (m : Mem) (x4 : Int32) : Option (Int32 × Mem) :=
  B_L_law_2100 N rec_23 m x4
set_option maxRecDepth 100000 in
set_option maxHeartbeats 40000000 in
theorem bk_L_law_1285 {N b L : Nat} {xs : Nat → Int32} {K : KT} {N0 : Nat} {m' : Mem} {f : Nat} {rec_23 : Mem → Int32 → Option (Int32 × Mem)} (hK : KOK K cL_law 7 RL wsL_law 11 N0 406) (hB : KB K) (hL : KL K b L xs) (hR : KLr K N0) (hrec_23 : ∀ {n : Nat} {m : Mem} {x4 : Int32} (hn : n + f * 7 ≤ N0), rec_23 m x4 = some (1, m') → AW K n 23 [(0, q_v (.ref b)), (1, q_r 0), (2, q_r 70), (3, q_r 108), (4, q_i x4)] [] m) {n : Nat} {m : Mem} {x4 : Int32} (hn : n + 7 + f * 7 ≤ N0) (hF : B_L_law_1285 N rec_23 m x4 = some (1, m')) : AW K (n + 7) 1285 [(0, q_v (.ref b)), (1, q_r 0), (2, q_r 70), (3, q_r 108), (4, q_i x4)] [] m := by
  unfold B_L_law_1285 at hF
  refine aw_goto hK 2100 rfl dL_law_1285 ?_
  refine aw_sub [0, 1, 2, 3, 4] (lv' := [(0, q_v (.ref b)), (1, q_r 0), (2, q_r 70), (3, q_r 108), (4, q_i x4)]) rfl ?_
  exact bk_L_law_2100 hK hB hL hR hrec_23 (by omega) hF
def B_L_law_1205 (N : Nat) (rec_23 : Mem → Int32 → Option (Int32 × Mem)) (m : Mem) (x4 : Int32) : Option (Int32 × Mem) :=
  B_L_law_2100 N rec_23 m x4
set_option maxRecDepth 100000 in
set_option maxHeartbeats 40000000 in
theorem bk_L_law_1205 {N b L : Nat} {xs : Nat → Int32} {K : KT} {N0 : Nat} {m' : Mem} {f : Nat} {rec_23 : Mem → Int32 → Option (Int32 × Mem)} (hK : KOK K cL_law 7 RL wsL_law 11 N0 406) (hB : KB K) (hL : KL K b L xs) (hR : KLr K N0) (hrec_23 : ∀ {n : Nat} {m : Mem} {x4 : Int32} (hn : n + f * 7 ≤ N0), rec_23 m x4 = some (1, m') → AW K n 23 [(0, q_v (.ref b)), (1, q_r 0), (2, q_r 70), (3, q_r 108), (4, q_i x4)] [] m) {n : Nat} {m : Mem} {x4 : Int32} (hn : n + 7 + f * 7 ≤ N0) (hF : B_L_law_1205 N rec_23 m x4 = some (1, m')) : AW K (n + 7) 1205 [(0, q_v (.ref b)), (1, q_r 0), (2, q_r 70), (3, q_r 108), (4, q_i x4)] [] m := by
  unfold B_L_law_1205 at hF
  refine aw_goto hK 2100 rfl dL_law_1205 ?_
  refine aw_sub [0, 1, 2, 3, 4] (lv' := [(0, q_v (.ref b)), (1, q_r 0), (2, q_r 70), (3, q_r 108), (4, q_i x4)]) rfl ?_
  exact bk_L_law_2100 hK hB hL hR hrec_23 (by omega) hF
def B_L_law_1199 (N : Nat) (rec_23 : Mem → Int32 → Option (Int32 × Mem)) (m : Mem) (x4 : Int32) (s0 : Int32) (s1 : Int32) : Option (Int32 × Mem) :=
  if (lg_cmp (s1).toInt64 (s0).toInt64) = (0 : Int32) then (
    B_L_law_1205 N rec_23 m x4
  ) else (
    some ((0 : Int32), m)
  )
set_option maxRecDepth 100000 in
set_option maxHeartbeats 40000000 in
theorem bk_L_law_1199 {N b L : Nat} {xs : Nat → Int32} {K : KT} {N0 : Nat} {m' : Mem} {f : Nat} {rec_23 : Mem → Int32 → Option (Int32 × Mem)} (hK : KOK K cL_law 7 RL wsL_law 11 N0 406) (hB : KB K) (hL : KL K b L xs) (hR : KLr K N0) (hrec_23 : ∀ {n : Nat} {m : Mem} {x4 : Int32} (hn : n + f * 7 ≤ N0), rec_23 m x4 = some (1, m') → AW K n 23 [(0, q_v (.ref b)), (1, q_r 0), (2, q_r 70), (3, q_r 108), (4, q_i x4)] [] m) {n : Nat} {m : Mem} {x4 : Int32} {s0 : Int32} {s1 : Int32} (hn : n + 7 + f * 7 ≤ N0) (hF : B_L_law_1199 N rec_23 m x4 s0 s1 = some (1, m')) : AW K (n + 7) 1199 [(0, q_v (.ref b)), (1, q_r 0), (2, q_r 70), (3, q_r 108), (4, q_i x4)] [q_v (.long s0.toInt64), q_v (.long s1.toInt64)] m := by
  unfold B_L_law_1199 at hF
  refine aw_lcmp hK dL_law_1199 ?_
  refine aw_if_eq hK 1205 rfl dL_law_1200 (fun hc => ?_) (fun hc => ?_)
  · have hF := if_t hF hc
    refine aw_sub [0, 1, 2, 3, 4] (lv' := [(0, q_v (.ref b)), (1, q_r 0), (2, q_r 70), (3, q_r 108), (4, q_i x4)]) rfl ?_
    exact bk_L_law_1205 hK hB hL hR hrec_23 (by omega) hF
  · have hF := if_f hF hc
    refine aw_iconst hK (0) rfl dL_law_1203 ?_
    obtain ⟨e1, rfl⟩ := so_inj hF
    exact absurd e1 (by decide)
def B_L_law_1130 (N : Nat) (rec_23 : Mem → Int32 → Option (Int32 × Mem)) (m : Mem) (x4 : Int32) : Option (Int32 × Mem) :=
  B_L_law_2100 N rec_23 m x4
set_option maxRecDepth 100000 in
set_option maxHeartbeats 40000000 in
theorem bk_L_law_1130 {N b L : Nat} {xs : Nat → Int32} {K : KT} {N0 : Nat} {m' : Mem} {f : Nat} {rec_23 : Mem → Int32 → Option (Int32 × Mem)} (hK : KOK K cL_law 7 RL wsL_law 11 N0 406) (hB : KB K) (hL : KL K b L xs) (hR : KLr K N0) (hrec_23 : ∀ {n : Nat} {m : Mem} {x4 : Int32} (hn : n + f * 7 ≤ N0), rec_23 m x4 = some (1, m') → AW K n 23 [(0, q_v (.ref b)), (1, q_r 0), (2, q_r 70), (3, q_r 108), (4, q_i x4)] [] m) {n : Nat} {m : Mem} {x4 : Int32} (hn : n + 7 + f * 7 ≤ N0) (hF : B_L_law_1130 N rec_23 m x4 = some (1, m')) : AW K (n + 7) 1130 [(0, q_v (.ref b)), (1, q_r 0), (2, q_r 70), (3, q_r 108), (4, q_i x4)] [] m := by
  unfold B_L_law_1130 at hF
  refine aw_goto hK 2100 rfl dL_law_1130 ?_
  refine aw_sub [0, 1, 2, 3, 4] (lv' := [(0, q_v (.ref b)), (1, q_r 0), (2, q_r 70), (3, q_r 108), (4, q_i x4)]) rfl ?_
  exact bk_L_law_2100 hK hB hL hR hrec_23 (by omega) hF
def B_L_law_1074 (N : Nat) (rec_23 : Mem → Int32 → Option (Int32 × Mem)) (m : Mem) (x4 : Int32) : Option (Int32 × Mem) :=
  B_L_law_2100 N rec_23 m x4
set_option maxRecDepth 100000 in
set_option maxHeartbeats 40000000 in
theorem bk_L_law_1074 {N b L : Nat} {xs : Nat → Int32} {K : KT} {N0 : Nat} {m' : Mem} {f : Nat} {rec_23 : Mem → Int32 → Option (Int32 × Mem)} (hK : KOK K cL_law 7 RL wsL_law 11 N0 406) (hB : KB K) (hL : KL K b L xs) (hR : KLr K N0) (hrec_23 : ∀ {n : Nat} {m : Mem} {x4 : Int32} (hn : n + f * 7 ≤ N0), rec_23 m x4 = some (1, m') → AW K n 23 [(0, q_v (.ref b)), (1, q_r 0), (2, q_r 70), (3, q_r 108), (4, q_i x4)] [] m) {n : Nat} {m : Mem} {x4 : Int32} (hn : n + 7 + f * 7 ≤ N0) (hF : B_L_law_1074 N rec_23 m x4 = some (1, m')) : AW K (n + 7) 1074 [(0, q_v (.ref b)), (1, q_r 0), (2, q_r 70), (3, q_r 108), (4, q_i x4)] [] m := by
  unfold B_L_law_1074 at hF
  refine aw_goto hK 2100 rfl dL_law_1074 ?_
  refine aw_sub [0, 1, 2, 3, 4] (lv' := [(0, q_v (.ref b)), (1, q_r 0), (2, q_r 70), (3, q_r 108), (4, q_i x4)]) rfl ?_
  exact bk_L_law_2100 hK hB hL hR hrec_23 (by omega) hF
def B_L_law_1041 (N : Nat) (rec_23 : Mem → Int32 → Option (Int32 × Mem)) (m : Mem) (x4 : Int32) (x5 : Int32) (s0 : Int32) (s1 : Int32) (s2 : Int32) (s3 : Int32) (s4 : Int32) : Option (Int32 × Mem) :=
  cal (F_X8_rule N m s4 s3 s2 s1 s0) fun r350 m349 =>
  cal (F_X8_thrown N m349) fun r353 m352 =>
  if r353 = x5 then (
    if x5 = (0 : Int32) then (
      gd (inb (0 : Int32) (alen 108)) <|
      if (lg_cmp (m352 108 (ix (0 : Int32))).toInt64 (r350).toInt64) = (0 : Int32) then (
        B_L_law_1074 N rec_23 m352 x4
      ) else (
        some ((0 : Int32), m352)
      )
    ) else (
      B_L_law_1074 N rec_23 m352 x4
    )
  ) else (
    some ((0 : Int32), m352)
  )
set_option maxRecDepth 100000 in
set_option maxHeartbeats 40000000 in
theorem bk_L_law_1041 {N b L : Nat} {xs : Nat → Int32} {K : KT} {N0 : Nat} {m' : Mem} {f : Nat} {rec_23 : Mem → Int32 → Option (Int32 × Mem)} (hK : KOK K cL_law 7 RL wsL_law 11 N0 406) (hB : KB K) (hL : KL K b L xs) (hR : KLr K N0) (hrec_23 : ∀ {n : Nat} {m : Mem} {x4 : Int32} (hn : n + f * 7 ≤ N0), rec_23 m x4 = some (1, m') → AW K n 23 [(0, q_v (.ref b)), (1, q_r 0), (2, q_r 70), (3, q_r 108), (4, q_i x4)] [] m) {n : Nat} {m : Mem} {x4 : Int32} {x5 : Int32} {s0 : Int32} {s1 : Int32} {s2 : Int32} {s3 : Int32} {s4 : Int32} (hn : n + 7 + f * 7 ≤ N0) (hF : B_L_law_1041 N rec_23 m x4 x5 s0 s1 s2 s3 s4 = some (1, m')) : AW K (n + 7) 1041 [(0, q_v (.ref b)), (1, q_r 0), (2, q_r 70), (3, q_r 108), (4, q_i x4), (5, q_i x5)] [q_i s0, q_i s1, q_i s2, q_i s3, q_i s4, q_r 70] m := by
  unfold B_L_law_1041 at hF
  obtain ⟨r350, m349, h348, hF⟩ := cal_some hF
  refine aw_cv hK 8 (as := [q_i s4, q_i s3, q_i s2, q_i s1, q_i s0]) (tr_X8_rule h348) gL_law_X8_rule rfl rfl rfl (by decide) (na := 5) (by decide +kernel) rfl ⟨by decide, by decide⟩ (by omega) (Nat.le_of_ble_eq_true rfl) dL_law_1041 ?_
  refine aw_istore hK [(6, q_i r350), (0, q_v (.ref b)), (1, q_r 0), (2, q_r 70), (3, q_r 108), (4, q_i x4), (5, q_i x5)] (by decide) rfl dL_law_1044 ?_
  refine aw_aload_n hK 3 rfl dL_law_1046 ?_
  obtain ⟨r353, m352, h351, hF⟩ := cal_some hF
  refine aw_cv hK 8 (as := []) (tr_X8_thrown h351) gL_law_X8_thrown rfl rfl rfl (by decide) (na := 0) (by decide +kernel) rfl ⟨by decide, by decide⟩ (by omega) (Nat.le_of_ble_eq_true rfl) dL_law_1047 ?_
  refine aw_iload hK 6 rfl dL_law_1050 ?_
  refine aw_icmp_eq hK 1057 rfl dL_law_1052 (fun hc => ?_) (fun hc => ?_)
  · have hF := if_t hF hc
    refine aw_iload hK 6 rfl dL_law_1057 ?_
    refine aw_if_ne hK 1074 rfl dL_law_1059 (fun hc => ?_) (fun hc => ?_)
    · have hF := if_f hF hc
      refine aw_sub [1, 2, 3, 4, 5] (lv' := [(0, q_v (.ref b)), (1, q_r 0), (2, q_r 70), (3, q_r 108), (4, q_i x4)]) rfl ?_
      exact bk_L_law_1074 hK hB hL hR hrec_23 (by omega) hF
    · have hF := if_t hF hc
      refine aw_aload_n hK 4 rfl dL_law_1062 ?_
      refine aw_iconst hK (0) rfl dL_law_1063 ?_
      obtain ⟨g354, hF⟩ := gd_some hF
      refine aw_lald hK rfl g354 dL_law_1064 ?_
      refine aw_iload hK 0 rfl dL_law_1065 ?_
      refine aw_i2l hK dL_law_1067 ?_
      refine aw_lcmp hK dL_law_1068 ?_
      refine aw_if_eq hK 1074 rfl dL_law_1069 (fun hc => ?_) (fun hc => ?_)
      · have hF := if_t hF hc
        refine aw_sub [1, 2, 3, 4, 5] (lv' := [(0, q_v (.ref b)), (1, q_r 0), (2, q_r 70), (3, q_r 108), (4, q_i x4)]) rfl ?_
        exact bk_L_law_1074 hK hB hL hR hrec_23 (by omega) hF
      · have hF := if_f hF hc
        refine aw_iconst hK (0) rfl dL_law_1072 ?_
        obtain ⟨e1, rfl⟩ := so_inj hF
        exact absurd e1 (by decide)
  · have hF := if_f hF hc
    refine aw_iconst hK (0) rfl dL_law_1055 ?_
    obtain ⟨e1, rfl⟩ := so_inj hF
    exact absurd e1 (by decide)
def B_L_law_996 (N L : Nat) (xs : Nat → Int32) (rec_23 : Mem → Int32 → Option (Int32 × Mem)) (m : Mem) (x4 : Int32) (s0 : Int32) (s1 : Int32) (s2 : Int32) (s3 : Int32) (s4 : Int32) : Option (Int32 × Mem) :=
  cal (F_L_rule N m s4 s3 s2 s1 s0) fun r342 m341 =>
  gd (inb (x4 + (1 : Int32)) L) <|
  gd (inb (x4 + (2 : Int32)) L) <|
  gd (inb (x4 + (3 : Int32)) L) <|
  gd (inb (x4 + (4 : Int32)) L) <|
  gd (inb (x4 + (5 : Int32)) L) <|
  if (xs (ix (x4 + (5 : Int32)))) = (0 : Int32) then (
    B_L_law_1041 N rec_23 m341 x4 r342 (0 : Int32) (xs (ix (x4 + (4 : Int32)))) (xs (ix (x4 + (3 : Int32)))) (xs (ix (x4 + (2 : Int32)))) (xs (ix (x4 + (1 : Int32))))
  ) else (
    B_L_law_1041 N rec_23 m341 x4 r342 (1 : Int32) (xs (ix (x4 + (4 : Int32)))) (xs (ix (x4 + (3 : Int32)))) (xs (ix (x4 + (2 : Int32)))) (xs (ix (x4 + (1 : Int32))))
  )
set_option maxRecDepth 100000 in
set_option maxHeartbeats 40000000 in
theorem bk_L_law_996 {N b L : Nat} {xs : Nat → Int32} {K : KT} {N0 : Nat} {m' : Mem} {f : Nat} {rec_23 : Mem → Int32 → Option (Int32 × Mem)} (hK : KOK K cL_law 7 RL wsL_law 11 N0 406) (hB : KB K) (hL : KL K b L xs) (hR : KLr K N0) (hrec_23 : ∀ {n : Nat} {m : Mem} {x4 : Int32} (hn : n + f * 7 ≤ N0), rec_23 m x4 = some (1, m') → AW K n 23 [(0, q_v (.ref b)), (1, q_r 0), (2, q_r 70), (3, q_r 108), (4, q_i x4)] [] m) {n : Nat} {m : Mem} {x4 : Int32} {s0 : Int32} {s1 : Int32} {s2 : Int32} {s3 : Int32} {s4 : Int32} (hn : n + 7 + f * 7 ≤ N0) (hF : B_L_law_996 N L xs rec_23 m x4 s0 s1 s2 s3 s4 = some (1, m')) : AW K n 996 [(0, q_v (.ref b)), (1, q_r 0), (2, q_r 70), (3, q_r 108), (4, q_i x4)] [q_i s0, q_i s1, q_i s2, q_i s3, q_i s4, q_r 0] m := by
  unfold B_L_law_996 at hF
  refine aw_aload_n hK 3 rfl dL_law_996 ?_
  obtain ⟨r342, m341, h340, hF⟩ := cal_some hF
  refine aw_csW hK hB (as := [q_r 0, q_i s4, q_i s3, q_i s2, q_i s1, q_i s0, q_r 108]) (trW_L_rule h340) gL_law_L_rule rfl (na := 7) (by decide +kernel) rfl ⟨by decide, by decide⟩ (by omega) (Nat.le_of_ble_eq_true rfl) dL_law_997 ?_
  refine aw_istore hK [(5, q_i r342), (0, q_v (.ref b)), (1, q_r 0), (2, q_r 70), (3, q_r 108), (4, q_i x4)] (by decide) rfl dL_law_1000 ?_
  refine aw_aload_n hK 3 rfl dL_law_1002 ?_
  refine aw_aloadV_n hK 1 rfl dL_law_1003 ?_
  refine aw_iload hK 5 rfl dL_law_1004 ?_
  refine aw_iconst hK (1) rfl dL_law_1006 ?_
  refine aw_iadd hK dL_law_1007 ?_
  obtain ⟨g343, hF⟩ := gd_some hF
  refine aw_sld hK hL g343 dL_law_1008 ?_
  refine aw_aloadV_n hK 1 rfl dL_law_1009 ?_
  refine aw_iload hK 5 rfl dL_law_1010 ?_
  refine aw_iconst hK (2) rfl dL_law_1012 ?_
  refine aw_iadd hK dL_law_1013 ?_
  obtain ⟨g344, hF⟩ := gd_some hF
  refine aw_sld hK hL g344 dL_law_1014 ?_
  refine aw_aloadV_n hK 1 rfl dL_law_1015 ?_
  refine aw_iload hK 5 rfl dL_law_1016 ?_
  refine aw_iconst hK (3) rfl dL_law_1018 ?_
  refine aw_iadd hK dL_law_1019 ?_
  obtain ⟨g345, hF⟩ := gd_some hF
  refine aw_sld hK hL g345 dL_law_1020 ?_
  refine aw_aloadV_n hK 1 rfl dL_law_1021 ?_
  refine aw_iload hK 5 rfl dL_law_1022 ?_
  refine aw_iconst hK (4) rfl dL_law_1024 ?_
  refine aw_iadd hK dL_law_1025 ?_
  obtain ⟨g346, hF⟩ := gd_some hF
  refine aw_sld hK hL g346 dL_law_1026 ?_
  refine aw_aloadV_n hK 1 rfl dL_law_1027 ?_
  refine aw_iload hK 5 rfl dL_law_1028 ?_
  refine aw_iconst hK (5) rfl dL_law_1030 ?_
  refine aw_iadd hK dL_law_1031 ?_
  obtain ⟨g347, hF⟩ := gd_some hF
  refine aw_sld hK hL g347 dL_law_1032 ?_
  refine aw_if_eq hK 1040 rfl dL_law_1033 (fun hc => ?_) (fun hc => ?_)
  · have hF := if_t hF hc
    refine aw_iconst hK (0) rfl dL_law_1040 ?_
    refine aw_wd (n' := n + 7) (by omega) ?_
    refine aw_sub [1, 2, 3, 4, 5, 0] (lv' := [(0, q_v (.ref b)), (1, q_r 0), (2, q_r 70), (3, q_r 108), (4, q_i x4), (5, q_i r342)]) rfl ?_
    exact bk_L_law_1041 hK hB hL hR hrec_23 (by omega) hF
  · have hF := if_f hF hc
    refine aw_iconst hK (1) rfl dL_law_1036 ?_
    refine aw_goto hK 1041 rfl dL_law_1037 ?_
    refine aw_wd (n' := n + 7) (by omega) ?_
    refine aw_sub [1, 2, 3, 4, 5, 0] (lv' := [(0, q_v (.ref b)), (1, q_r 0), (2, q_r 70), (3, q_r 108), (4, q_i x4), (5, q_i r342)]) rfl ?_
    exact bk_L_law_1041 hK hB hL hR hrec_23 (by omega) hF
def B_L_law_954 (N : Nat) (rec_23 : Mem → Int32 → Option (Int32 × Mem)) (m : Mem) (x4 : Int32) : Option (Int32 × Mem) :=
  B_L_law_2100 N rec_23 m x4
set_option maxRecDepth 100000 in
set_option maxHeartbeats 40000000 in
theorem bk_L_law_954 {N b L : Nat} {xs : Nat → Int32} {K : KT} {N0 : Nat} {m' : Mem} {f : Nat} {rec_23 : Mem → Int32 → Option (Int32 × Mem)} (hK : KOK K cL_law 7 RL wsL_law 11 N0 406) (hB : KB K) (hL : KL K b L xs) (hR : KLr K N0) (hrec_23 : ∀ {n : Nat} {m : Mem} {x4 : Int32} (hn : n + f * 7 ≤ N0), rec_23 m x4 = some (1, m') → AW K n 23 [(0, q_v (.ref b)), (1, q_r 0), (2, q_r 70), (3, q_r 108), (4, q_i x4)] [] m) {n : Nat} {m : Mem} {x4 : Int32} (hn : n + 7 + f * 7 ≤ N0) (hF : B_L_law_954 N rec_23 m x4 = some (1, m')) : AW K (n + 7) 954 [(0, q_v (.ref b)), (1, q_r 0), (2, q_r 70), (3, q_r 108), (4, q_i x4)] [] m := by
  unfold B_L_law_954 at hF
  refine aw_goto hK 2100 rfl dL_law_954 ?_
  refine aw_sub [0, 1, 2, 3, 4] (lv' := [(0, q_v (.ref b)), (1, q_r 0), (2, q_r 70), (3, q_r 108), (4, q_i x4)]) rfl ?_
  exact bk_L_law_2100 hK hB hL hR hrec_23 (by omega) hF
def B_L_law_921 (N : Nat) (rec_23 : Mem → Int32 → Option (Int32 × Mem)) (m : Mem) (x4 : Int32) (x5 : Int32) (s0 : Int32) (s1 : Int32) (s2 : Int32) : Option (Int32 × Mem) :=
  cal (F_X8_meet N m s2 s1 s0) fun r363 m362 =>
  cal (F_X8_thrown N m362) fun r366 m365 =>
  if r366 = x5 then (
    if x5 = (0 : Int32) then (
      gd (inb (0 : Int32) (alen 108)) <|
      if (lg_cmp (m365 108 (ix (0 : Int32))).toInt64 (r363).toInt64) = (0 : Int32) then (
        B_L_law_954 N rec_23 m365 x4
      ) else (
        some ((0 : Int32), m365)
      )
    ) else (
      B_L_law_954 N rec_23 m365 x4
    )
  ) else (
    some ((0 : Int32), m365)
  )
set_option maxRecDepth 100000 in
set_option maxHeartbeats 40000000 in
theorem bk_L_law_921 {N b L : Nat} {xs : Nat → Int32} {K : KT} {N0 : Nat} {m' : Mem} {f : Nat} {rec_23 : Mem → Int32 → Option (Int32 × Mem)} (hK : KOK K cL_law 7 RL wsL_law 11 N0 406) (hB : KB K) (hL : KL K b L xs) (hR : KLr K N0) (hrec_23 : ∀ {n : Nat} {m : Mem} {x4 : Int32} (hn : n + f * 7 ≤ N0), rec_23 m x4 = some (1, m') → AW K n 23 [(0, q_v (.ref b)), (1, q_r 0), (2, q_r 70), (3, q_r 108), (4, q_i x4)] [] m) {n : Nat} {m : Mem} {x4 : Int32} {x5 : Int32} {s0 : Int32} {s1 : Int32} {s2 : Int32} (hn : n + 7 + f * 7 ≤ N0) (hF : B_L_law_921 N rec_23 m x4 x5 s0 s1 s2 = some (1, m')) : AW K (n + 7) 921 [(0, q_v (.ref b)), (1, q_r 0), (2, q_r 70), (3, q_r 108), (4, q_i x4), (5, q_i x5)] [q_i s0, q_i s1, q_i s2, q_r 70] m := by
  unfold B_L_law_921 at hF
  obtain ⟨r363, m362, h361, hF⟩ := cal_some hF
  refine aw_cv hK 8 (as := [q_i s2, q_i s1, q_i s0]) (tr_X8_meet h361) gL_law_X8_meet rfl rfl rfl (by decide) (na := 3) (by decide +kernel) rfl ⟨by decide, by decide⟩ (by omega) (Nat.le_of_ble_eq_true rfl) dL_law_921 ?_
  refine aw_istore hK [(6, q_i r363), (0, q_v (.ref b)), (1, q_r 0), (2, q_r 70), (3, q_r 108), (4, q_i x4), (5, q_i x5)] (by decide) rfl dL_law_924 ?_
  refine aw_aload_n hK 3 rfl dL_law_926 ?_
  obtain ⟨r366, m365, h364, hF⟩ := cal_some hF
  refine aw_cv hK 8 (as := []) (tr_X8_thrown h364) gL_law_X8_thrown rfl rfl rfl (by decide) (na := 0) (by decide +kernel) rfl ⟨by decide, by decide⟩ (by omega) (Nat.le_of_ble_eq_true rfl) dL_law_927 ?_
  refine aw_iload hK 6 rfl dL_law_930 ?_
  refine aw_icmp_eq hK 937 rfl dL_law_932 (fun hc => ?_) (fun hc => ?_)
  · have hF := if_t hF hc
    refine aw_iload hK 6 rfl dL_law_937 ?_
    refine aw_if_ne hK 954 rfl dL_law_939 (fun hc => ?_) (fun hc => ?_)
    · have hF := if_f hF hc
      refine aw_sub [1, 2, 3, 4, 5] (lv' := [(0, q_v (.ref b)), (1, q_r 0), (2, q_r 70), (3, q_r 108), (4, q_i x4)]) rfl ?_
      exact bk_L_law_954 hK hB hL hR hrec_23 (by omega) hF
    · have hF := if_t hF hc
      refine aw_aload_n hK 4 rfl dL_law_942 ?_
      refine aw_iconst hK (0) rfl dL_law_943 ?_
      obtain ⟨g367, hF⟩ := gd_some hF
      refine aw_lald hK rfl g367 dL_law_944 ?_
      refine aw_iload hK 0 rfl dL_law_945 ?_
      refine aw_i2l hK dL_law_947 ?_
      refine aw_lcmp hK dL_law_948 ?_
      refine aw_if_eq hK 954 rfl dL_law_949 (fun hc => ?_) (fun hc => ?_)
      · have hF := if_t hF hc
        refine aw_sub [1, 2, 3, 4, 5] (lv' := [(0, q_v (.ref b)), (1, q_r 0), (2, q_r 70), (3, q_r 108), (4, q_i x4)]) rfl ?_
        exact bk_L_law_954 hK hB hL hR hrec_23 (by omega) hF
      · have hF := if_f hF hc
        refine aw_iconst hK (0) rfl dL_law_952 ?_
        obtain ⟨e1, rfl⟩ := so_inj hF
        exact absurd e1 (by decide)
  · have hF := if_f hF hc
    refine aw_iconst hK (0) rfl dL_law_935 ?_
    obtain ⟨e1, rfl⟩ := so_inj hF
    exact absurd e1 (by decide)
def B_L_law_888 (N L : Nat) (xs : Nat → Int32) (rec_23 : Mem → Int32 → Option (Int32 × Mem)) (m : Mem) (x4 : Int32) (s0 : Int32) (s1 : Int32) (s2 : Int32) : Option (Int32 × Mem) :=
  cal (F_L_meet N m s2 s1 s0) fun r357 m356 =>
  gd (inb (x4 + (1 : Int32)) L) <|
  gd (inb (x4 + (2 : Int32)) L) <|
  gd (inb (x4 + (3 : Int32)) L) <|
  if (xs (ix (x4 + (3 : Int32)))) = (0 : Int32) then (
    B_L_law_921 N rec_23 m356 x4 r357 (0 : Int32) (xs (ix (x4 + (2 : Int32)))) (xs (ix (x4 + (1 : Int32))))
  ) else (
    B_L_law_921 N rec_23 m356 x4 r357 (1 : Int32) (xs (ix (x4 + (2 : Int32)))) (xs (ix (x4 + (1 : Int32))))
  )
set_option maxRecDepth 100000 in
set_option maxHeartbeats 40000000 in
theorem bk_L_law_888 {N b L : Nat} {xs : Nat → Int32} {K : KT} {N0 : Nat} {m' : Mem} {f : Nat} {rec_23 : Mem → Int32 → Option (Int32 × Mem)} (hK : KOK K cL_law 7 RL wsL_law 11 N0 406) (hB : KB K) (hL : KL K b L xs) (hR : KLr K N0) (hrec_23 : ∀ {n : Nat} {m : Mem} {x4 : Int32} (hn : n + f * 7 ≤ N0), rec_23 m x4 = some (1, m') → AW K n 23 [(0, q_v (.ref b)), (1, q_r 0), (2, q_r 70), (3, q_r 108), (4, q_i x4)] [] m) {n : Nat} {m : Mem} {x4 : Int32} {s0 : Int32} {s1 : Int32} {s2 : Int32} (hn : n + 7 + f * 7 ≤ N0) (hF : B_L_law_888 N L xs rec_23 m x4 s0 s1 s2 = some (1, m')) : AW K n 888 [(0, q_v (.ref b)), (1, q_r 0), (2, q_r 70), (3, q_r 108), (4, q_i x4)] [q_i s0, q_i s1, q_i s2, q_r 0] m := by
  unfold B_L_law_888 at hF
  refine aw_aload_n hK 3 rfl dL_law_888 ?_
  obtain ⟨r357, m356, h355, hF⟩ := cal_some hF
  refine aw_csW hK hB (as := [q_r 0, q_i s2, q_i s1, q_i s0, q_r 108]) (trW_L_meet h355) gL_law_L_meet rfl (na := 5) (by decide +kernel) rfl ⟨by decide, by decide⟩ (by omega) (Nat.le_of_ble_eq_true rfl) dL_law_889 ?_
  refine aw_istore hK [(5, q_i r357), (0, q_v (.ref b)), (1, q_r 0), (2, q_r 70), (3, q_r 108), (4, q_i x4)] (by decide) rfl dL_law_892 ?_
  refine aw_aload_n hK 3 rfl dL_law_894 ?_
  refine aw_aloadV_n hK 1 rfl dL_law_895 ?_
  refine aw_iload hK 5 rfl dL_law_896 ?_
  refine aw_iconst hK (1) rfl dL_law_898 ?_
  refine aw_iadd hK dL_law_899 ?_
  obtain ⟨g358, hF⟩ := gd_some hF
  refine aw_sld hK hL g358 dL_law_900 ?_
  refine aw_aloadV_n hK 1 rfl dL_law_901 ?_
  refine aw_iload hK 5 rfl dL_law_902 ?_
  refine aw_iconst hK (2) rfl dL_law_904 ?_
  refine aw_iadd hK dL_law_905 ?_
  obtain ⟨g359, hF⟩ := gd_some hF
  refine aw_sld hK hL g359 dL_law_906 ?_
  refine aw_aloadV_n hK 1 rfl dL_law_907 ?_
  refine aw_iload hK 5 rfl dL_law_908 ?_
  refine aw_iconst hK (3) rfl dL_law_910 ?_
  refine aw_iadd hK dL_law_911 ?_
  obtain ⟨g360, hF⟩ := gd_some hF
  refine aw_sld hK hL g360 dL_law_912 ?_
  refine aw_if_eq hK 920 rfl dL_law_913 (fun hc => ?_) (fun hc => ?_)
  · have hF := if_t hF hc
    refine aw_iconst hK (0) rfl dL_law_920 ?_
    refine aw_wd (n' := n + 7) (by omega) ?_
    refine aw_sub [1, 2, 3, 4, 5, 0] (lv' := [(0, q_v (.ref b)), (1, q_r 0), (2, q_r 70), (3, q_r 108), (4, q_i x4), (5, q_i r357)]) rfl ?_
    exact bk_L_law_921 hK hB hL hR hrec_23 (by omega) hF
  · have hF := if_f hF hc
    refine aw_iconst hK (1) rfl dL_law_916 ?_
    refine aw_goto hK 921 rfl dL_law_917 ?_
    refine aw_wd (n' := n + 7) (by omega) ?_
    refine aw_sub [1, 2, 3, 4, 5, 0] (lv' := [(0, q_v (.ref b)), (1, q_r 0), (2, q_r 70), (3, q_r 108), (4, q_i x4), (5, q_i r357)]) rfl ?_
    exact bk_L_law_921 hK hB hL hR hrec_23 (by omega) hF
def B_L_law_858 (N : Nat) (rec_23 : Mem → Int32 → Option (Int32 × Mem)) (m : Mem) (x4 : Int32) : Option (Int32 × Mem) :=
  B_L_law_2100 N rec_23 m x4
set_option maxRecDepth 100000 in
set_option maxHeartbeats 40000000 in
theorem bk_L_law_858 {N b L : Nat} {xs : Nat → Int32} {K : KT} {N0 : Nat} {m' : Mem} {f : Nat} {rec_23 : Mem → Int32 → Option (Int32 × Mem)} (hK : KOK K cL_law 7 RL wsL_law 11 N0 406) (hB : KB K) (hL : KL K b L xs) (hR : KLr K N0) (hrec_23 : ∀ {n : Nat} {m : Mem} {x4 : Int32} (hn : n + f * 7 ≤ N0), rec_23 m x4 = some (1, m') → AW K n 23 [(0, q_v (.ref b)), (1, q_r 0), (2, q_r 70), (3, q_r 108), (4, q_i x4)] [] m) {n : Nat} {m : Mem} {x4 : Int32} (hn : n + 7 + f * 7 ≤ N0) (hF : B_L_law_858 N rec_23 m x4 = some (1, m')) : AW K (n + 7) 858 [(0, q_v (.ref b)), (1, q_r 0), (2, q_r 70), (3, q_r 108), (4, q_i x4)] [] m := by
  unfold B_L_law_858 at hF
  refine aw_goto hK 2100 rfl dL_law_858 ?_
  refine aw_sub [0, 1, 2, 3, 4] (lv' := [(0, q_v (.ref b)), (1, q_r 0), (2, q_r 70), (3, q_r 108), (4, q_i x4)]) rfl ?_
  exact bk_L_law_2100 hK hB hL hR hrec_23 (by omega) hF
def B_L_law_802 (N : Nat) (rec_23 : Mem → Int32 → Option (Int32 × Mem)) (m : Mem) (x4 : Int32) : Option (Int32 × Mem) :=
  B_L_law_2100 N rec_23 m x4
set_option maxRecDepth 100000 in
set_option maxHeartbeats 40000000 in
theorem bk_L_law_802 {N b L : Nat} {xs : Nat → Int32} {K : KT} {N0 : Nat} {m' : Mem} {f : Nat} {rec_23 : Mem → Int32 → Option (Int32 × Mem)} (hK : KOK K cL_law 7 RL wsL_law 11 N0 406) (hB : KB K) (hL : KL K b L xs) (hR : KLr K N0) (hrec_23 : ∀ {n : Nat} {m : Mem} {x4 : Int32} (hn : n + f * 7 ≤ N0), rec_23 m x4 = some (1, m') → AW K n 23 [(0, q_v (.ref b)), (1, q_r 0), (2, q_r 70), (3, q_r 108), (4, q_i x4)] [] m) {n : Nat} {m : Mem} {x4 : Int32} (hn : n + 7 + f * 7 ≤ N0) (hF : B_L_law_802 N rec_23 m x4 = some (1, m')) : AW K (n + 7) 802 [(0, q_v (.ref b)), (1, q_r 0), (2, q_r 70), (3, q_r 108), (4, q_i x4)] [] m := by
  unfold B_L_law_802 at hF
  refine aw_goto hK 2100 rfl dL_law_802 ?_
  refine aw_sub [0, 1, 2, 3, 4] (lv' := [(0, q_v (.ref b)), (1, q_r 0), (2, q_r 70), (3, q_r 108), (4, q_i x4)]) rfl ?_
  exact bk_L_law_2100 hK hB hL hR hrec_23 (by omega) hF
def B_L_law_769 (N : Nat) (rec_23 : Mem → Int32 → Option (Int32 × Mem)) (m : Mem) (x4 : Int32) (x5 : Int32) (s0 : Int32) (s1 : Int32) : Option (Int32 × Mem) :=
  cal (F_X8_side N m s1 s0) fun r375 m374 =>
  cal (F_X8_thrown N m374) fun r378 m377 =>
  if r378 = x5 then (
    if x5 = (0 : Int32) then (
      gd (inb (0 : Int32) (alen 108)) <|
      if (lg_cmp (m377 108 (ix (0 : Int32))).toInt64 (r375).toInt64) = (0 : Int32) then (
        B_L_law_802 N rec_23 m377 x4
      ) else (
        some ((0 : Int32), m377)
      )
    ) else (
      B_L_law_802 N rec_23 m377 x4
    )
  ) else (
    some ((0 : Int32), m377)
  )
set_option maxRecDepth 100000 in
set_option maxHeartbeats 40000000 in
theorem bk_L_law_769 {N b L : Nat} {xs : Nat → Int32} {K : KT} {N0 : Nat} {m' : Mem} {f : Nat} {rec_23 : Mem → Int32 → Option (Int32 × Mem)} (hK : KOK K cL_law 7 RL wsL_law 11 N0 406) (hB : KB K) (hL : KL K b L xs) (hR : KLr K N0) (hrec_23 : ∀ {n : Nat} {m : Mem} {x4 : Int32} (hn : n + f * 7 ≤ N0), rec_23 m x4 = some (1, m') → AW K n 23 [(0, q_v (.ref b)), (1, q_r 0), (2, q_r 70), (3, q_r 108), (4, q_i x4)] [] m) {n : Nat} {m : Mem} {x4 : Int32} {x5 : Int32} {s0 : Int32} {s1 : Int32} (hn : n + 7 + f * 7 ≤ N0) (hF : B_L_law_769 N rec_23 m x4 x5 s0 s1 = some (1, m')) : AW K (n + 7) 769 [(0, q_v (.ref b)), (1, q_r 0), (2, q_r 70), (3, q_r 108), (4, q_i x4), (5, q_i x5)] [q_i s0, q_i s1, q_r 70] m := by
  unfold B_L_law_769 at hF
  obtain ⟨r375, m374, h373, hF⟩ := cal_some hF
  refine aw_cv hK 8 (as := [q_i s1, q_i s0]) (tr_X8_side h373) gL_law_X8_side rfl rfl rfl (by decide) (na := 2) (by decide +kernel) rfl ⟨by decide, by decide⟩ (by omega) (Nat.le_of_ble_eq_true rfl) dL_law_769 ?_
  refine aw_istore hK [(6, q_i r375), (0, q_v (.ref b)), (1, q_r 0), (2, q_r 70), (3, q_r 108), (4, q_i x4), (5, q_i x5)] (by decide) rfl dL_law_772 ?_
  refine aw_aload_n hK 3 rfl dL_law_774 ?_
  obtain ⟨r378, m377, h376, hF⟩ := cal_some hF
  refine aw_cv hK 8 (as := []) (tr_X8_thrown h376) gL_law_X8_thrown rfl rfl rfl (by decide) (na := 0) (by decide +kernel) rfl ⟨by decide, by decide⟩ (by omega) (Nat.le_of_ble_eq_true rfl) dL_law_775 ?_
  refine aw_iload hK 6 rfl dL_law_778 ?_
  refine aw_icmp_eq hK 785 rfl dL_law_780 (fun hc => ?_) (fun hc => ?_)
  · have hF := if_t hF hc
    refine aw_iload hK 6 rfl dL_law_785 ?_
    refine aw_if_ne hK 802 rfl dL_law_787 (fun hc => ?_) (fun hc => ?_)
    · have hF := if_f hF hc
      refine aw_sub [1, 2, 3, 4, 5] (lv' := [(0, q_v (.ref b)), (1, q_r 0), (2, q_r 70), (3, q_r 108), (4, q_i x4)]) rfl ?_
      exact bk_L_law_802 hK hB hL hR hrec_23 (by omega) hF
    · have hF := if_t hF hc
      refine aw_aload_n hK 4 rfl dL_law_790 ?_
      refine aw_iconst hK (0) rfl dL_law_791 ?_
      obtain ⟨g379, hF⟩ := gd_some hF
      refine aw_lald hK rfl g379 dL_law_792 ?_
      refine aw_iload hK 0 rfl dL_law_793 ?_
      refine aw_i2l hK dL_law_795 ?_
      refine aw_lcmp hK dL_law_796 ?_
      refine aw_if_eq hK 802 rfl dL_law_797 (fun hc => ?_) (fun hc => ?_)
      · have hF := if_t hF hc
        refine aw_sub [1, 2, 3, 4, 5] (lv' := [(0, q_v (.ref b)), (1, q_r 0), (2, q_r 70), (3, q_r 108), (4, q_i x4)]) rfl ?_
        exact bk_L_law_802 hK hB hL hR hrec_23 (by omega) hF
      · have hF := if_f hF hc
        refine aw_iconst hK (0) rfl dL_law_800 ?_
        obtain ⟨e1, rfl⟩ := so_inj hF
        exact absurd e1 (by decide)
  · have hF := if_f hF hc
    refine aw_iconst hK (0) rfl dL_law_783 ?_
    obtain ⟨e1, rfl⟩ := so_inj hF
    exact absurd e1 (by decide)
def B_L_law_742 (N L : Nat) (xs : Nat → Int32) (rec_23 : Mem → Int32 → Option (Int32 × Mem)) (m : Mem) (x4 : Int32) (s0 : Int32) (s1 : Int32) : Option (Int32 × Mem) :=
  cal (F_L_side N m s1 s0) fun r370 m369 =>
  gd (inb (x4 + (1 : Int32)) L) <|
  gd (inb (x4 + (2 : Int32)) L) <|
  if (xs (ix (x4 + (2 : Int32)))) = (0 : Int32) then (
    B_L_law_769 N rec_23 m369 x4 r370 (0 : Int32) (xs (ix (x4 + (1 : Int32))))
  ) else (
    B_L_law_769 N rec_23 m369 x4 r370 (1 : Int32) (xs (ix (x4 + (1 : Int32))))
  )
set_option maxRecDepth 100000 in
set_option maxHeartbeats 40000000 in
theorem bk_L_law_742 {N b L : Nat} {xs : Nat → Int32} {K : KT} {N0 : Nat} {m' : Mem} {f : Nat} {rec_23 : Mem → Int32 → Option (Int32 × Mem)} (hK : KOK K cL_law 7 RL wsL_law 11 N0 406) (hB : KB K) (hL : KL K b L xs) (hR : KLr K N0) (hrec_23 : ∀ {n : Nat} {m : Mem} {x4 : Int32} (hn : n + f * 7 ≤ N0), rec_23 m x4 = some (1, m') → AW K n 23 [(0, q_v (.ref b)), (1, q_r 0), (2, q_r 70), (3, q_r 108), (4, q_i x4)] [] m) {n : Nat} {m : Mem} {x4 : Int32} {s0 : Int32} {s1 : Int32} (hn : n + 7 + f * 7 ≤ N0) (hF : B_L_law_742 N L xs rec_23 m x4 s0 s1 = some (1, m')) : AW K n 742 [(0, q_v (.ref b)), (1, q_r 0), (2, q_r 70), (3, q_r 108), (4, q_i x4)] [q_i s0, q_i s1, q_r 0] m := by
  unfold B_L_law_742 at hF
  refine aw_aload_n hK 3 rfl dL_law_742 ?_
  obtain ⟨r370, m369, h368, hF⟩ := cal_some hF
  refine aw_csW hK hB (as := [q_r 0, q_i s1, q_i s0, q_r 108]) (trW_L_side h368) gL_law_L_side rfl (na := 4) (by decide +kernel) rfl ⟨by decide, by decide⟩ (by omega) (Nat.le_of_ble_eq_true rfl) dL_law_743 ?_
  refine aw_istore hK [(5, q_i r370), (0, q_v (.ref b)), (1, q_r 0), (2, q_r 70), (3, q_r 108), (4, q_i x4)] (by decide) rfl dL_law_746 ?_
  refine aw_aload_n hK 3 rfl dL_law_748 ?_
  refine aw_aloadV_n hK 1 rfl dL_law_749 ?_
  refine aw_iload hK 5 rfl dL_law_750 ?_
  refine aw_iconst hK (1) rfl dL_law_752 ?_
  refine aw_iadd hK dL_law_753 ?_
  obtain ⟨g371, hF⟩ := gd_some hF
  refine aw_sld hK hL g371 dL_law_754 ?_
  refine aw_aloadV_n hK 1 rfl dL_law_755 ?_
  refine aw_iload hK 5 rfl dL_law_756 ?_
  refine aw_iconst hK (2) rfl dL_law_758 ?_
  refine aw_iadd hK dL_law_759 ?_
  obtain ⟨g372, hF⟩ := gd_some hF
  refine aw_sld hK hL g372 dL_law_760 ?_
  refine aw_if_eq hK 768 rfl dL_law_761 (fun hc => ?_) (fun hc => ?_)
  · have hF := if_t hF hc
    refine aw_iconst hK (0) rfl dL_law_768 ?_
    refine aw_wd (n' := n + 7) (by omega) ?_
    refine aw_sub [1, 2, 3, 4, 5, 0] (lv' := [(0, q_v (.ref b)), (1, q_r 0), (2, q_r 70), (3, q_r 108), (4, q_i x4), (5, q_i r370)]) rfl ?_
    exact bk_L_law_769 hK hB hL hR hrec_23 (by omega) hF
  · have hF := if_f hF hc
    refine aw_iconst hK (1) rfl dL_law_764 ?_
    refine aw_goto hK 769 rfl dL_law_765 ?_
    refine aw_wd (n' := n + 7) (by omega) ?_
    refine aw_sub [1, 2, 3, 4, 5, 0] (lv' := [(0, q_v (.ref b)), (1, q_r 0), (2, q_r 70), (3, q_r 108), (4, q_i x4), (5, q_i r370)]) rfl ?_
    exact bk_L_law_769 hK hB hL hR hrec_23 (by omega) hF
def B_L_law_718 (N : Nat) (rec_23 : Mem → Int32 → Option (Int32 × Mem)) (m : Mem) (x4 : Int32) : Option (Int32 × Mem) :=
  B_L_law_2100 N rec_23 m x4
set_option maxRecDepth 100000 in
set_option maxHeartbeats 40000000 in
theorem bk_L_law_718 {N b L : Nat} {xs : Nat → Int32} {K : KT} {N0 : Nat} {m' : Mem} {f : Nat} {rec_23 : Mem → Int32 → Option (Int32 × Mem)} (hK : KOK K cL_law 7 RL wsL_law 11 N0 406) (hB : KB K) (hL : KL K b L xs) (hR : KLr K N0) (hrec_23 : ∀ {n : Nat} {m : Mem} {x4 : Int32} (hn : n + f * 7 ≤ N0), rec_23 m x4 = some (1, m') → AW K n 23 [(0, q_v (.ref b)), (1, q_r 0), (2, q_r 70), (3, q_r 108), (4, q_i x4)] [] m) {n : Nat} {m : Mem} {x4 : Int32} (hn : n + 7 + f * 7 ≤ N0) (hF : B_L_law_718 N rec_23 m x4 = some (1, m')) : AW K (n + 7) 718 [(0, q_v (.ref b)), (1, q_r 0), (2, q_r 70), (3, q_r 108), (4, q_i x4)] [] m := by
  unfold B_L_law_718 at hF
  refine aw_goto hK 2100 rfl dL_law_718 ?_
  refine aw_sub [0, 1, 2, 3, 4] (lv' := [(0, q_v (.ref b)), (1, q_r 0), (2, q_r 70), (3, q_r 108), (4, q_i x4)]) rfl ?_
  exact bk_L_law_2100 hK hB hL hR hrec_23 (by omega) hF
def B_L_law_650 (N : Nat) (rec_23 : Mem → Int32 → Option (Int32 × Mem)) (m : Mem) (x4 : Int32) : Option (Int32 × Mem) :=
  B_L_law_2100 N rec_23 m x4
set_option maxRecDepth 100000 in
set_option maxHeartbeats 40000000 in
theorem bk_L_law_650 {N b L : Nat} {xs : Nat → Int32} {K : KT} {N0 : Nat} {m' : Mem} {f : Nat} {rec_23 : Mem → Int32 → Option (Int32 × Mem)} (hK : KOK K cL_law 7 RL wsL_law 11 N0 406) (hB : KB K) (hL : KL K b L xs) (hR : KLr K N0) (hrec_23 : ∀ {n : Nat} {m : Mem} {x4 : Int32} (hn : n + f * 7 ≤ N0), rec_23 m x4 = some (1, m') → AW K n 23 [(0, q_v (.ref b)), (1, q_r 0), (2, q_r 70), (3, q_r 108), (4, q_i x4)] [] m) {n : Nat} {m : Mem} {x4 : Int32} (hn : n + 7 + f * 7 ≤ N0) (hF : B_L_law_650 N rec_23 m x4 = some (1, m')) : AW K (n + 7) 650 [(0, q_v (.ref b)), (1, q_r 0), (2, q_r 70), (3, q_r 108), (4, q_i x4)] [] m := by
  unfold B_L_law_650 at hF
  refine aw_goto hK 2100 rfl dL_law_650 ?_
  refine aw_sub [0, 1, 2, 3, 4] (lv' := [(0, q_v (.ref b)), (1, q_r 0), (2, q_r 70), (3, q_r 108), (4, q_i x4)]) rfl ?_
  exact bk_L_law_2100 hK hB hL hR hrec_23 (by omega) hF
def B_L_law_594 (N : Nat) (rec_23 : Mem → Int32 → Option (Int32 × Mem)) (m : Mem) (x4 : Int32) : Option (Int32 × Mem) :=
  B_L_law_2100 N rec_23 m x4
set_option maxRecDepth 100000 in
set_option maxHeartbeats 40000000 in
theorem bk_L_law_594 {N b L : Nat} {xs : Nat → Int32} {K : KT} {N0 : Nat} {m' : Mem} {f : Nat} {rec_23 : Mem → Int32 → Option (Int32 × Mem)} (hK : KOK K cL_law 7 RL wsL_law 11 N0 406) (hB : KB K) (hL : KL K b L xs) (hR : KLr K N0) (hrec_23 : ∀ {n : Nat} {m : Mem} {x4 : Int32} (hn : n + f * 7 ≤ N0), rec_23 m x4 = some (1, m') → AW K n 23 [(0, q_v (.ref b)), (1, q_r 0), (2, q_r 70), (3, q_r 108), (4, q_i x4)] [] m) {n : Nat} {m : Mem} {x4 : Int32} (hn : n + 7 + f * 7 ≤ N0) (hF : B_L_law_594 N rec_23 m x4 = some (1, m')) : AW K (n + 7) 594 [(0, q_v (.ref b)), (1, q_r 0), (2, q_r 70), (3, q_r 108), (4, q_i x4)] [] m := by
  unfold B_L_law_594 at hF
  refine aw_goto hK 2100 rfl dL_law_594 ?_
  refine aw_sub [0, 1, 2, 3, 4] (lv' := [(0, q_v (.ref b)), (1, q_r 0), (2, q_r 70), (3, q_r 108), (4, q_i x4)]) rfl ?_
  exact bk_L_law_2100 hK hB hL hR hrec_23 (by omega) hF
def B_L_law_538 (N : Nat) (rec_23 : Mem → Int32 → Option (Int32 × Mem)) (m : Mem) (x4 : Int32) : Option (Int32 × Mem) :=
  B_L_law_2100 N rec_23 m x4
set_option maxRecDepth 100000 in
set_option maxHeartbeats 40000000 in
theorem bk_L_law_538 {N b L : Nat} {xs : Nat → Int32} {K : KT} {N0 : Nat} {m' : Mem} {f : Nat} {rec_23 : Mem → Int32 → Option (Int32 × Mem)} (hK : KOK K cL_law 7 RL wsL_law 11 N0 406) (hB : KB K) (hL : KL K b L xs) (hR : KLr K N0) (hrec_23 : ∀ {n : Nat} {m : Mem} {x4 : Int32} (hn : n + f * 7 ≤ N0), rec_23 m x4 = some (1, m') → AW K n 23 [(0, q_v (.ref b)), (1, q_r 0), (2, q_r 70), (3, q_r 108), (4, q_i x4)] [] m) {n : Nat} {m : Mem} {x4 : Int32} (hn : n + 7 + f * 7 ≤ N0) (hF : B_L_law_538 N rec_23 m x4 = some (1, m')) : AW K (n + 7) 538 [(0, q_v (.ref b)), (1, q_r 0), (2, q_r 70), (3, q_r 108), (4, q_i x4)] [] m := by
  unfold B_L_law_538 at hF
  refine aw_goto hK 2100 rfl dL_law_538 ?_
  refine aw_sub [0, 1, 2, 3, 4] (lv' := [(0, q_v (.ref b)), (1, q_r 0), (2, q_r 70), (3, q_r 108), (4, q_i x4)]) rfl ?_
  exact bk_L_law_2100 hK hB hL hR hrec_23 (by omega) hF
def B_L_law_470 (N : Nat) (rec_23 : Mem → Int32 → Option (Int32 × Mem)) (m : Mem) (x4 : Int32) : Option (Int32 × Mem) :=
  B_L_law_2100 N rec_23 m x4
set_option maxRecDepth 100000 in
set_option maxHeartbeats 40000000 in
theorem bk_L_law_470 {N b L : Nat} {xs : Nat → Int32} {K : KT} {N0 : Nat} {m' : Mem} {f : Nat} {rec_23 : Mem → Int32 → Option (Int32 × Mem)} (hK : KOK K cL_law 7 RL wsL_law 11 N0 406) (hB : KB K) (hL : KL K b L xs) (hR : KLr K N0) (hrec_23 : ∀ {n : Nat} {m : Mem} {x4 : Int32} (hn : n + f * 7 ≤ N0), rec_23 m x4 = some (1, m') → AW K n 23 [(0, q_v (.ref b)), (1, q_r 0), (2, q_r 70), (3, q_r 108), (4, q_i x4)] [] m) {n : Nat} {m : Mem} {x4 : Int32} (hn : n + 7 + f * 7 ≤ N0) (hF : B_L_law_470 N rec_23 m x4 = some (1, m')) : AW K (n + 7) 470 [(0, q_v (.ref b)), (1, q_r 0), (2, q_r 70), (3, q_r 108), (4, q_i x4)] [] m := by
  unfold B_L_law_470 at hF
  refine aw_goto hK 2100 rfl dL_law_470 ?_
  refine aw_sub [0, 1, 2, 3, 4] (lv' := [(0, q_v (.ref b)), (1, q_r 0), (2, q_r 70), (3, q_r 108), (4, q_i x4)]) rfl ?_
  exact bk_L_law_2100 hK hB hL hR hrec_23 (by omega) hF
def B_L_law_402 (N : Nat) (rec_23 : Mem → Int32 → Option (Int32 × Mem)) (m : Mem) (x4 : Int32) : Option (Int32 × Mem) :=
  B_L_law_2100 N rec_23 m x4
set_option maxRecDepth 100000 in
set_option maxHeartbeats 40000000 in
theorem bk_L_law_402 {N b L : Nat} {xs : Nat → Int32} {K : KT} {N0 : Nat} {m' : Mem} {f : Nat} {rec_23 : Mem → Int32 → Option (Int32 × Mem)} (hK : KOK K cL_law 7 RL wsL_law 11 N0 406) (hB : KB K) (hL : KL K b L xs) (hR : KLr K N0) (hrec_23 : ∀ {n : Nat} {m : Mem} {x4 : Int32} (hn : n + f * 7 ≤ N0), rec_23 m x4 = some (1, m') → AW K n 23 [(0, q_v (.ref b)), (1, q_r 0), (2, q_r 70), (3, q_r 108), (4, q_i x4)] [] m) {n : Nat} {m : Mem} {x4 : Int32} (hn : n + 7 + f * 7 ≤ N0) (hF : B_L_law_402 N rec_23 m x4 = some (1, m')) : AW K (n + 7) 402 [(0, q_v (.ref b)), (1, q_r 0), (2, q_r 70), (3, q_r 108), (4, q_i x4)] [] m := by
  unfold B_L_law_402 at hF
  refine aw_goto hK 2100 rfl dL_law_402 ?_
  refine aw_sub [0, 1, 2, 3, 4] (lv' := [(0, q_v (.ref b)), (1, q_r 0), (2, q_r 70), (3, q_r 108), (4, q_i x4)]) rfl ?_
  exact bk_L_law_2100 hK hB hL hR hrec_23 (by omega) hF
def B_L_law_358 (N : Nat) (rec_23 : Mem → Int32 → Option (Int32 × Mem)) (m : Mem) (x4 : Int32) : Option (Int32 × Mem) :=
  B_L_law_2100 N rec_23 m x4
set_option maxRecDepth 100000 in
set_option maxHeartbeats 40000000 in
theorem bk_L_law_358 {N b L : Nat} {xs : Nat → Int32} {K : KT} {N0 : Nat} {m' : Mem} {f : Nat} {rec_23 : Mem → Int32 → Option (Int32 × Mem)} (hK : KOK K cL_law 7 RL wsL_law 11 N0 406) (hB : KB K) (hL : KL K b L xs) (hR : KLr K N0) (hrec_23 : ∀ {n : Nat} {m : Mem} {x4 : Int32} (hn : n + f * 7 ≤ N0), rec_23 m x4 = some (1, m') → AW K n 23 [(0, q_v (.ref b)), (1, q_r 0), (2, q_r 70), (3, q_r 108), (4, q_i x4)] [] m) {n : Nat} {m : Mem} {x4 : Int32} (hn : n + 7 + f * 7 ≤ N0) (hF : B_L_law_358 N rec_23 m x4 = some (1, m')) : AW K (n + 7) 358 [(0, q_v (.ref b)), (1, q_r 0), (2, q_r 70), (3, q_r 108), (4, q_i x4)] [] m := by
  unfold B_L_law_358 at hF
  refine aw_goto hK 2100 rfl dL_law_358 ?_
  refine aw_sub [0, 1, 2, 3, 4] (lv' := [(0, q_v (.ref b)), (1, q_r 0), (2, q_r 70), (3, q_r 108), (4, q_i x4)]) rfl ?_
  exact bk_L_law_2100 hK hB hL hR hrec_23 (by omega) hF
def B_L_law_314 (N : Nat) (rec_23 : Mem → Int32 → Option (Int32 × Mem)) (m : Mem) (x4 : Int32) : Option (Int32 × Mem) :=
  B_L_law_2100 N rec_23 m x4
set_option maxRecDepth 100000 in
set_option maxHeartbeats 40000000 in
theorem bk_L_law_314 {N b L : Nat} {xs : Nat → Int32} {K : KT} {N0 : Nat} {m' : Mem} {f : Nat} {rec_23 : Mem → Int32 → Option (Int32 × Mem)} (hK : KOK K cL_law 7 RL wsL_law 11 N0 406) (hB : KB K) (hL : KL K b L xs) (hR : KLr K N0) (hrec_23 : ∀ {n : Nat} {m : Mem} {x4 : Int32} (hn : n + f * 7 ≤ N0), rec_23 m x4 = some (1, m') → AW K n 23 [(0, q_v (.ref b)), (1, q_r 0), (2, q_r 70), (3, q_r 108), (4, q_i x4)] [] m) {n : Nat} {m : Mem} {x4 : Int32} (hn : n + 7 + f * 7 ≤ N0) (hF : B_L_law_314 N rec_23 m x4 = some (1, m')) : AW K (n + 7) 314 [(0, q_v (.ref b)), (1, q_r 0), (2, q_r 70), (3, q_r 108), (4, q_i x4)] [] m := by
  unfold B_L_law_314 at hF
  refine aw_goto hK 2100 rfl dL_law_314 ?_
  refine aw_sub [0, 1, 2, 3, 4] (lv' := [(0, q_v (.ref b)), (1, q_r 0), (2, q_r 70), (3, q_r 108), (4, q_i x4)]) rfl ?_
  exact bk_L_law_2100 hK hB hL hR hrec_23 (by omega) hF
def B_L_law_221 (N : Nat) (rec_23 : Mem → Int32 → Option (Int32 × Mem)) (m : Mem) (x4 : Int32) : Option (Int32 × Mem) :=
  B_L_law_2100 N rec_23 m x4
set_option maxRecDepth 100000 in
set_option maxHeartbeats 40000000 in
theorem bk_L_law_221 {N b L : Nat} {xs : Nat → Int32} {K : KT} {N0 : Nat} {m' : Mem} {f : Nat} {rec_23 : Mem → Int32 → Option (Int32 × Mem)} (hK : KOK K cL_law 7 RL wsL_law 11 N0 406) (hB : KB K) (hL : KL K b L xs) (hR : KLr K N0) (hrec_23 : ∀ {n : Nat} {m : Mem} {x4 : Int32} (hn : n + f * 7 ≤ N0), rec_23 m x4 = some (1, m') → AW K n 23 [(0, q_v (.ref b)), (1, q_r 0), (2, q_r 70), (3, q_r 108), (4, q_i x4)] [] m) {n : Nat} {m : Mem} {x4 : Int32} (hn : n + 7 + f * 7 ≤ N0) (hF : B_L_law_221 N rec_23 m x4 = some (1, m')) : AW K (n + 7) 221 [(0, q_v (.ref b)), (1, q_r 0), (2, q_r 70), (3, q_r 108), (4, q_i x4)] [] m := by
  unfold B_L_law_221 at hF
  refine aw_goto hK 2100 rfl dL_law_221 ?_
  refine aw_sub [0, 1, 2, 3, 4] (lv' := [(0, q_v (.ref b)), (1, q_r 0), (2, q_r 70), (3, q_r 108), (4, q_i x4)]) rfl ?_
  exact bk_L_law_2100 hK hB hL hR hrec_23 (by omega) hF
def S_L_law_23 (N L : Nat) (xs : Nat → Int32) (rec_23 : Mem → Int32 → Option (Int32 × Mem)) (m : Mem) (x4 : Int32) : Option (Int32 × Mem) :=
  if ((nI L) - (6 : Int32)) < x4 then (
    some ((1 : Int32), m)
  ) else (
    gd (inb x4 L) <|
    if ((xs (ix x4)) &&& (31 : Int32)) = (0 : Int32) then (
      gd (inb (x4 + (1 : Int32)) L) <|
      cal (F_L_type N m (xs (ix (x4 + (1 : Int32))))) fun r5 m4 =>
      gd (inb (x4 + (1 : Int32)) L) <|
      cal (F_X8_type N m4 (xs (ix (x4 + (1 : Int32))))) fun r9 m8 =>
      cal (F_X8_thrown N m8) fun r12 m11 =>
      if r12 = r5 then (
        if r5 = (0 : Int32) then (
          gd (inb (0 : Int32) (alen 108)) <|
          if (lg_cmp (m11 108 (ix (0 : Int32))).toInt64 (r9).toInt64) = (0 : Int32) then (
            B_L_law_221 N rec_23 m11 x4
          ) else (
            some ((0 : Int32), m11)
          )
        ) else (
          B_L_law_221 N rec_23 m11 x4
        )
      ) else (
        some ((0 : Int32), m11)
      )
    ) else (
    if ((xs (ix x4)) &&& (31 : Int32)) = (1 : Int32) then (
      cal (F_X7_clear N m) fun r16 m15 =>
      cal (F_X8_clear N m15) fun r19 m18 =>
      if r16 = r19 then (
        B_L_law_2100 N rec_23 m18 x4
      ) else (
        some ((0 : Int32), m18)
      )
    ) else (
    if ((xs (ix x4)) &&& (31 : Int32)) = (2 : Int32) then (
      gd (inb (x4 + (1 : Int32)) L) <|
      gd (inb (x4 + (2 : Int32)) L) <|
      gd (inb (x4 + (3 : Int32)) L) <|
      cal (F_L_pair N m (xs (ix (x4 + (1 : Int32)))) (xs (ix (x4 + (2 : Int32)))) (xs (ix (x4 + (3 : Int32))))) fun r25 m24 =>
      gd (inb (x4 + (1 : Int32)) L) <|
      gd (inb (x4 + (2 : Int32)) L) <|
      gd (inb (x4 + (3 : Int32)) L) <|
      cal (F_X8_pair N m24 (xs (ix (x4 + (1 : Int32)))) (xs (ix (x4 + (2 : Int32)))) (xs (ix (x4 + (3 : Int32))))) fun r31 m30 =>
      cal (F_X8_thrown N m30) fun r34 m33 =>
      if r34 = r25 then (
        if r25 = (0 : Int32) then (
          gd (inb (0 : Int32) (alen 108)) <|
          if (lg_cmp (m33 108 (ix (0 : Int32))).toInt64 (r31).toInt64) = (0 : Int32) then (
            B_L_law_314 N rec_23 m33 x4
          ) else (
            some ((0 : Int32), m33)
          )
        ) else (
          B_L_law_314 N rec_23 m33 x4
        )
      ) else (
        some ((0 : Int32), m33)
      )
    ) else (
    if ((xs (ix x4)) &&& (31 : Int32)) = (3 : Int32) then (
      cal (F_L_word N m) fun r38 m37 =>
      cal (F_X8_word N m37) fun r41 m40 =>
      cal (F_X8_thrown N m40) fun r44 m43 =>
      if r44 = r38 then (
        if r38 = (0 : Int32) then (
          gd (inb (0 : Int32) (alen 108)) <|
          if (lg_cmp (m43 108 (ix (0 : Int32))).toInt64 (r41).toInt64) = (0 : Int32) then (
            B_L_law_358 N rec_23 m43 x4
          ) else (
            some ((0 : Int32), m43)
          )
        ) else (
          B_L_law_358 N rec_23 m43 x4
        )
      ) else (
        some ((0 : Int32), m43)
      )
    ) else (
    if ((xs (ix x4)) &&& (31 : Int32)) = (4 : Int32) then (
      cal (F_L_any N m) fun r48 m47 =>
      cal (F_X8_any N m47) fun r51 m50 =>
      cal (F_X8_thrown N m50) fun r54 m53 =>
      if r54 = r48 then (
        if r48 = (0 : Int32) then (
          gd (inb (0 : Int32) (alen 108)) <|
          if (lg_cmp (m53 108 (ix (0 : Int32))).toInt64 (r51).toInt64) = (0 : Int32) then (
            B_L_law_402 N rec_23 m53 x4
          ) else (
            some ((0 : Int32), m53)
          )
        ) else (
          B_L_law_402 N rec_23 m53 x4
        )
      ) else (
        some ((0 : Int32), m53)
      )
    ) else (
    if ((xs (ix x4)) &&& (31 : Int32)) = (5 : Int32) then (
      gd (inb (x4 + (1 : Int32)) L) <|
      gd (inb (x4 + (2 : Int32)) L) <|
      cal (F_L_join N m (xs (ix (x4 + (1 : Int32)))) (xs (ix (x4 + (2 : Int32))))) fun r60 m59 =>
      gd (inb (x4 + (1 : Int32)) L) <|
      gd (inb (x4 + (2 : Int32)) L) <|
      cal (F_X8_join N m59 (xs (ix (x4 + (1 : Int32)))) (xs (ix (x4 + (2 : Int32))))) fun r65 m64 =>
      cal (F_X8_thrown N m64) fun r68 m67 =>
      if r68 = r60 then (
        if r60 = (0 : Int32) then (
          gd (inb (0 : Int32) (alen 108)) <|
          if (lg_cmp (m67 108 (ix (0 : Int32))).toInt64 (r65).toInt64) = (0 : Int32) then (
            B_L_law_470 N rec_23 m67 x4
          ) else (
            some ((0 : Int32), m67)
          )
        ) else (
          B_L_law_470 N rec_23 m67 x4
        )
      ) else (
        some ((0 : Int32), m67)
      )
    ) else (
    if ((xs (ix x4)) &&& (31 : Int32)) = (6 : Int32) then (
      gd (inb (x4 + (1 : Int32)) L) <|
      gd (inb (x4 + (2 : Int32)) L) <|
      cal (F_L_unite N m (xs (ix (x4 + (1 : Int32)))) (xs (ix (x4 + (2 : Int32))))) fun r74 m73 =>
      gd (inb (x4 + (1 : Int32)) L) <|
      gd (inb (x4 + (2 : Int32)) L) <|
      cal (F_X8_unite N m73 (xs (ix (x4 + (1 : Int32)))) (xs (ix (x4 + (2 : Int32))))) fun r79 m78 =>
      cal (F_X8_thrown N m78) fun r82 m81 =>
      if r82 = r74 then (
        if r74 = (0 : Int32) then (
          gd (inb (0 : Int32) (alen 108)) <|
          if (lg_cmp (m81 108 (ix (0 : Int32))).toInt64 (r79).toInt64) = (0 : Int32) then (
            B_L_law_538 N rec_23 m81 x4
          ) else (
            some ((0 : Int32), m81)
          )
        ) else (
          B_L_law_538 N rec_23 m81 x4
        )
      ) else (
        some ((0 : Int32), m81)
      )
    ) else (
    if ((xs (ix x4)) &&& (31 : Int32)) = (7 : Int32) then (
      gd (inb (x4 + (1 : Int32)) L) <|
      cal (F_L_repeat N m (xs (ix (x4 + (1 : Int32))))) fun r87 m86 =>
      gd (inb (x4 + (1 : Int32)) L) <|
      cal (F_X8_repeat N m86 (xs (ix (x4 + (1 : Int32))))) fun r91 m90 =>
      cal (F_X8_thrown N m90) fun r94 m93 =>
      if r94 = r87 then (
        if r87 = (0 : Int32) then (
          gd (inb (0 : Int32) (alen 108)) <|
          if (lg_cmp (m93 108 (ix (0 : Int32))).toInt64 (r91).toInt64) = (0 : Int32) then (
            B_L_law_594 N rec_23 m93 x4
          ) else (
            some ((0 : Int32), m93)
          )
        ) else (
          B_L_law_594 N rec_23 m93 x4
        )
      ) else (
        some ((0 : Int32), m93)
      )
    ) else (
    if ((xs (ix x4)) &&& (31 : Int32)) = (8 : Int32) then (
      gd (inb (x4 + (1 : Int32)) L) <|
      cal (F_L_turn N m (xs (ix (x4 + (1 : Int32))))) fun r99 m98 =>
      gd (inb (x4 + (1 : Int32)) L) <|
      cal (F_X8_turn N m98 (xs (ix (x4 + (1 : Int32))))) fun r103 m102 =>
      cal (F_X8_thrown N m102) fun r106 m105 =>
      if r106 = r99 then (
        if r99 = (0 : Int32) then (
          gd (inb (0 : Int32) (alen 108)) <|
          if (lg_cmp (m105 108 (ix (0 : Int32))).toInt64 (r103).toInt64) = (0 : Int32) then (
            B_L_law_650 N rec_23 m105 x4
          ) else (
            some ((0 : Int32), m105)
          )
        ) else (
          B_L_law_650 N rec_23 m105 x4
        )
      ) else (
        some ((0 : Int32), m105)
      )
    ) else (
    if ((xs (ix x4)) &&& (31 : Int32)) = (9 : Int32) then (
      gd (inb (x4 + (1 : Int32)) L) <|
      gd (inb (x4 + (2 : Int32)) L) <|
      cal (F_L_compose N m (xs (ix (x4 + (1 : Int32)))) (xs (ix (x4 + (2 : Int32))))) fun r112 m111 =>
      gd (inb (x4 + (1 : Int32)) L) <|
      gd (inb (x4 + (2 : Int32)) L) <|
      cal (F_X8_compose N m111 (xs (ix (x4 + (1 : Int32)))) (xs (ix (x4 + (2 : Int32))))) fun r117 m116 =>
      cal (F_X8_thrown N m116) fun r120 m119 =>
      if r120 = r112 then (
        if r112 = (0 : Int32) then (
          gd (inb (0 : Int32) (alen 108)) <|
          if (lg_cmp (m119 108 (ix (0 : Int32))).toInt64 (r117).toInt64) = (0 : Int32) then (
            B_L_law_718 N rec_23 m119 x4
          ) else (
            some ((0 : Int32), m119)
          )
        ) else (
          B_L_law_718 N rec_23 m119 x4
        )
      ) else (
        some ((0 : Int32), m119)
      )
    ) else (
    if ((xs (ix x4)) &&& (31 : Int32)) = (10 : Int32) then (
      gd (inb (x4 + (1 : Int32)) L) <|
      gd (inb (x4 + (2 : Int32)) L) <|
      if (xs (ix (x4 + (2 : Int32)))) = (0 : Int32) then (
        B_L_law_742 N L xs rec_23 m x4 (0 : Int32) (xs (ix (x4 + (1 : Int32))))
      ) else (
        B_L_law_742 N L xs rec_23 m x4 (1 : Int32) (xs (ix (x4 + (1 : Int32))))
      )
    ) else (
    if ((xs (ix x4)) &&& (31 : Int32)) = (11 : Int32) then (
      gd (inb (x4 + (1 : Int32)) L) <|
      cal (F_L_least N m (xs (ix (x4 + (1 : Int32))))) fun r127 m126 =>
      gd (inb (x4 + (1 : Int32)) L) <|
      cal (F_X8_least N m126 (xs (ix (x4 + (1 : Int32))))) fun r131 m130 =>
      cal (F_X8_thrown N m130) fun r134 m133 =>
      if r134 = r127 then (
        if r127 = (0 : Int32) then (
          gd (inb (0 : Int32) (alen 108)) <|
          if (lg_cmp (m133 108 (ix (0 : Int32))).toInt64 (r131).toInt64) = (0 : Int32) then (
            B_L_law_858 N rec_23 m133 x4
          ) else (
            some ((0 : Int32), m133)
          )
        ) else (
          B_L_law_858 N rec_23 m133 x4
        )
      ) else (
        some ((0 : Int32), m133)
      )
    ) else (
    if ((xs (ix x4)) &&& (31 : Int32)) = (12 : Int32) then (
      gd (inb (x4 + (1 : Int32)) L) <|
      gd (inb (x4 + (2 : Int32)) L) <|
      gd (inb (x4 + (3 : Int32)) L) <|
      if (xs (ix (x4 + (3 : Int32)))) = (0 : Int32) then (
        B_L_law_888 N L xs rec_23 m x4 (0 : Int32) (xs (ix (x4 + (2 : Int32)))) (xs (ix (x4 + (1 : Int32))))
      ) else (
        B_L_law_888 N L xs rec_23 m x4 (1 : Int32) (xs (ix (x4 + (2 : Int32)))) (xs (ix (x4 + (1 : Int32))))
      )
    ) else (
    if ((xs (ix x4)) &&& (31 : Int32)) = (13 : Int32) then (
      gd (inb (x4 + (1 : Int32)) L) <|
      gd (inb (x4 + (2 : Int32)) L) <|
      gd (inb (x4 + (3 : Int32)) L) <|
      gd (inb (x4 + (4 : Int32)) L) <|
      gd (inb (x4 + (5 : Int32)) L) <|
      if (xs (ix (x4 + (5 : Int32)))) = (0 : Int32) then (
        B_L_law_996 N L xs rec_23 m x4 (0 : Int32) (xs (ix (x4 + (4 : Int32)))) (xs (ix (x4 + (3 : Int32)))) (xs (ix (x4 + (2 : Int32)))) (xs (ix (x4 + (1 : Int32))))
      ) else (
        B_L_law_996 N L xs rec_23 m x4 (1 : Int32) (xs (ix (x4 + (4 : Int32)))) (xs (ix (x4 + (3 : Int32)))) (xs (ix (x4 + (2 : Int32)))) (xs (ix (x4 + (1 : Int32))))
      )
    ) else (
    if ((xs (ix x4)) &&& (31 : Int32)) = (14 : Int32) then (
      gd (inb (x4 + (1 : Int32)) L) <|
      cal (F_L_size N m (xs (ix (x4 + (1 : Int32))))) fun r147 m146 =>
      gd (inb (x4 + (1 : Int32)) L) <|
      cal (F_X8_size N m146 (xs (ix (x4 + (1 : Int32))))) fun r151 m150 =>
      cal (F_X8_thrown N m150) fun r154 m153 =>
      if r154 = r147 then (
        if r147 = (0 : Int32) then (
          gd (inb (0 : Int32) (alen 108)) <|
          if (lg_cmp (m153 108 (ix (0 : Int32))).toInt64 (r151).toInt64) = (0 : Int32) then (
            B_L_law_1130 N rec_23 m153 x4
          ) else (
            some ((0 : Int32), m153)
          )
        ) else (
          B_L_law_1130 N rec_23 m153 x4
        )
      ) else (
        some ((0 : Int32), m153)
      )
    ) else (
    if ((xs (ix x4)) &&& (31 : Int32)) = (15 : Int32) then (
      gd (inb (x4 + (1 : Int32)) L) <|
      gd (inb (x4 + (2 : Int32)) L) <|
      cal (F_L_isEnd N m (xs (ix (x4 + (1 : Int32)))) (xs (ix (x4 + (2 : Int32))))) fun r160 m159 =>
      gd (inb (x4 + (1 : Int32)) L) <|
      gd (inb (x4 + (2 : Int32)) L) <|
      cal (F_X8_isEnd N m159 (xs (ix (x4 + (1 : Int32)))) (xs (ix (x4 + (2 : Int32))))) fun r165 m164 =>
      cal (F_X8_thrown N m164) fun r168 m167 =>
      if r168 = r160 then (
        if r160 = (0 : Int32) then (
          gd (inb (0 : Int32) (alen 108)) <|
          if r165 = (0 : Int32) then (
            B_L_law_1199 N rec_23 m167 x4 (0 : Int32) (m167 108 (ix (0 : Int32)))
          ) else (
            B_L_law_1199 N rec_23 m167 x4 (1 : Int32) (m167 108 (ix (0 : Int32)))
          )
        ) else (
          B_L_law_1205 N rec_23 m167 x4
        )
      ) else (
        some ((0 : Int32), m167)
      )
    ) else (
    if ((xs (ix x4)) &&& (31 : Int32)) = (16 : Int32) then (
      gd (inb (x4 + (1 : Int32)) L) <|
      gd (inb (x4 + (2 : Int32)) L) <|
      gd (inb (x4 + (3 : Int32)) L) <|
      cal (F_L_arc N m (xs (ix (x4 + (1 : Int32)))) (xs (ix (x4 + (2 : Int32)))) (xs (ix (x4 + (3 : Int32))))) fun r175 m174 =>
      gd (inb (x4 + (1 : Int32)) L) <|
      gd (inb (x4 + (2 : Int32)) L) <|
      gd (inb (x4 + (3 : Int32)) L) <|
      cal (F_X8_arc N m174 (xs (ix (x4 + (1 : Int32)))) (xs (ix (x4 + (2 : Int32)))) (xs (ix (x4 + (3 : Int32))))) fun r181 m180 =>
      cal (F_X8_thrown N m180) fun r184 m183 =>
      if r184 = r175 then (
        if r175 = (0 : Int32) then (
          gd (inb (0 : Int32) (alen 108)) <|
          if (lg_cmp (m183 108 (ix (0 : Int32))).toInt64 (r181).toInt64) = (0 : Int32) then (
            B_L_law_1285 N rec_23 m183 x4
          ) else (
            some ((0 : Int32), m183)
          )
        ) else (
          B_L_law_1285 N rec_23 m183 x4
        )
      ) else (
        some ((0 : Int32), m183)
      )
    ) else (
    if ((xs (ix x4)) &&& (31 : Int32)) = (17 : Int32) then (
      gd (inb (x4 + (1 : Int32)) L) <|
      cal (F_L_isPlain N m (xs (ix (x4 + (1 : Int32))))) fun r189 m188 =>
      gd (inb (x4 + (1 : Int32)) L) <|
      cal (F_X8_isPlain N m188 (xs (ix (x4 + (1 : Int32))))) fun r193 m192 =>
      cal (F_X8_thrown N m192) fun r196 m195 =>
      if r196 = r189 then (
        if r189 = (0 : Int32) then (
          gd (inb (0 : Int32) (alen 108)) <|
          if r193 = (0 : Int32) then (
            B_L_law_1342 N rec_23 m195 x4 (0 : Int32) (m195 108 (ix (0 : Int32)))
          ) else (
            B_L_law_1342 N rec_23 m195 x4 (1 : Int32) (m195 108 (ix (0 : Int32)))
          )
        ) else (
          B_L_law_1348 N rec_23 m195 x4
        )
      ) else (
        some ((0 : Int32), m195)
      )
    ) else (
    if ((xs (ix x4)) &&& (31 : Int32)) = (18 : Int32) then (
      gd (inb (x4 + (1 : Int32)) L) <|
      gd (inb (x4 + (2 : Int32)) L) <|
      if (xs (ix (x4 + (2 : Int32)))) = (0 : Int32) then (
        B_L_law_1372 N L xs rec_23 m x4 (0 : Int32) (xs (ix (x4 + (1 : Int32))))
      ) else (
        B_L_law_1372 N L xs rec_23 m x4 (1 : Int32) (xs (ix (x4 + (1 : Int32))))
      )
    ) else (
    if ((xs (ix x4)) &&& (31 : Int32)) = (19 : Int32) then (
      gd (inb (x4 + (1 : Int32)) L) <|
      gd (inb (x4 + (2 : Int32)) L) <|
      if (xs (ix (x4 + (2 : Int32)))) = (0 : Int32) then (
        B_L_law_1480 N L xs rec_23 m x4 (0 : Int32) (xs (ix (x4 + (1 : Int32))))
      ) else (
        B_L_law_1480 N L xs rec_23 m x4 (1 : Int32) (xs (ix (x4 + (1 : Int32))))
      )
    ) else (
    if ((xs (ix x4)) &&& (31 : Int32)) = (20 : Int32) then (
      gd (inb (x4 + (1 : Int32)) L) <|
      gd (inb (x4 + (2 : Int32)) L) <|
      if (xs (ix (x4 + (2 : Int32)))) = (0 : Int32) then (
        B_L_law_1564 N L xs rec_23 m x4 (0 : Int32) (xs (ix (x4 + (1 : Int32))))
      ) else (
        B_L_law_1564 N L xs rec_23 m x4 (1 : Int32) (xs (ix (x4 + (1 : Int32))))
      )
    ) else (
    if ((xs (ix x4)) &&& (31 : Int32)) = (21 : Int32) then (
      gd (inb (x4 + (1 : Int32)) L) <|
      gd (inb (x4 + (2 : Int32)) L) <|
      if (xs (ix (x4 + (2 : Int32)))) = (0 : Int32) then (
        B_L_law_1648 N L xs rec_23 m x4 (0 : Int32) (xs (ix (x4 + (1 : Int32))))
      ) else (
        B_L_law_1648 N L xs rec_23 m x4 (1 : Int32) (xs (ix (x4 + (1 : Int32))))
      )
    ) else (
    if ((xs (ix x4)) &&& (31 : Int32)) = (22 : Int32) then (
      gd (inb (x4 + (1 : Int32)) L) <|
      cal (F_L_changes N m (xs (ix (x4 + (1 : Int32))))) fun r209 m208 =>
      gd (inb (x4 + (1 : Int32)) L) <|
      cal (F_X8_changes N m208 (xs (ix (x4 + (1 : Int32))))) fun r213 m212 =>
      cal (F_X8_thrown N m212) fun r216 m215 =>
      if r216 = r209 then (
        if r209 = (0 : Int32) then (
          gd (inb (0 : Int32) (alen 108)) <|
          if (lg_cmp (m215 108 (ix (0 : Int32))).toInt64 (r213).toInt64) = (0 : Int32) then (
            B_L_law_1776 N rec_23 m215 x4
          ) else (
            some ((0 : Int32), m215)
          )
        ) else (
          B_L_law_1776 N rec_23 m215 x4
        )
      ) else (
        some ((0 : Int32), m215)
      )
    ) else (
    if ((xs (ix x4)) &&& (31 : Int32)) = (23 : Int32) then (
      gd (inb (x4 + (1 : Int32)) L) <|
      gd (inb (x4 + (2 : Int32)) L) <|
      cal (F_L_mended N m (xs (ix (x4 + (1 : Int32)))) (xs (ix (x4 + (2 : Int32))))) fun r222 m221 =>
      gd (inb (x4 + (1 : Int32)) L) <|
      gd (inb (x4 + (2 : Int32)) L) <|
      cal (F_X8_mended N m221 (xs (ix (x4 + (1 : Int32)))) (xs (ix (x4 + (2 : Int32))))) fun r227 m226 =>
      cal (F_X8_thrown N m226) fun r230 m229 =>
      if r230 = r222 then (
        if r222 = (0 : Int32) then (
          gd (inb (0 : Int32) (alen 108)) <|
          if (lg_cmp (m229 108 (ix (0 : Int32))).toInt64 (r227).toInt64) = (0 : Int32) then (
            B_L_law_1844 N rec_23 m229 x4
          ) else (
            some ((0 : Int32), m229)
          )
        ) else (
          B_L_law_1844 N rec_23 m229 x4
        )
      ) else (
        some ((0 : Int32), m229)
      )
    ) else (
    if ((xs (ix x4)) &&& (31 : Int32)) = (24 : Int32) then (
      gd (inb (x4 + (1 : Int32)) L) <|
      gd (inb (x4 + (2 : Int32)) L) <|
      gd (inb (x4 + (3 : Int32)) L) <|
      cal (F_L_apart N m (xs (ix (x4 + (1 : Int32)))) (xs (ix (x4 + (2 : Int32)))) (xs (ix (x4 + (3 : Int32))))) fun r237 m236 =>
      gd (inb (x4 + (1 : Int32)) L) <|
      gd (inb (x4 + (2 : Int32)) L) <|
      gd (inb (x4 + (3 : Int32)) L) <|
      cal (F_X8_apart N m236 (xs (ix (x4 + (1 : Int32)))) (xs (ix (x4 + (2 : Int32)))) (xs (ix (x4 + (3 : Int32))))) fun r243 m242 =>
      cal (F_X8_thrown N m242) fun r246 m245 =>
      if r246 = r237 then (
        if r237 = (0 : Int32) then (
          gd (inb (0 : Int32) (alen 108)) <|
          if (lg_cmp (m245 108 (ix (0 : Int32))).toInt64 (r243).toInt64) = (0 : Int32) then (
            B_L_law_1924 N rec_23 m245 x4
          ) else (
            some ((0 : Int32), m245)
          )
        ) else (
          B_L_law_1924 N rec_23 m245 x4
        )
      ) else (
        some ((0 : Int32), m245)
      )
    ) else (
    if ((xs (ix x4)) &&& (31 : Int32)) = (25 : Int32) then (
      gd (inb (x4 + (1 : Int32)) L) <|
      gd (inb (x4 + (2 : Int32)) L) <|
      gd (inb (x4 + (3 : Int32)) L) <|
      gd (inb (x4 + (4 : Int32)) L) <|
      gd (inb (x4 + (5 : Int32)) L) <|
      cal (F_L_ruled N m (xs (ix (x4 + (1 : Int32)))) (xs (ix (x4 + (2 : Int32)))) (xs (ix (x4 + (3 : Int32)))) (xs (ix (x4 + (4 : Int32)))) (xs (ix (x4 + (5 : Int32))))) fun r255 m254 =>
      gd (inb (x4 + (1 : Int32)) L) <|
      gd (inb (x4 + (2 : Int32)) L) <|
      gd (inb (x4 + (3 : Int32)) L) <|
      gd (inb (x4 + (4 : Int32)) L) <|
      gd (inb (x4 + (5 : Int32)) L) <|
      cal (F_X8_ruled N m254 (xs (ix (x4 + (1 : Int32)))) (xs (ix (x4 + (2 : Int32)))) (xs (ix (x4 + (3 : Int32)))) (xs (ix (x4 + (4 : Int32)))) (xs (ix (x4 + (5 : Int32))))) fun r263 m262 =>
      cal (F_X8_thrown N m262) fun r266 m265 =>
      if r266 = r255 then (
        if r255 = (0 : Int32) then (
          gd (inb (0 : Int32) (alen 108)) <|
          if (lg_cmp (m265 108 (ix (0 : Int32))).toInt64 (r263).toInt64) = (0 : Int32) then (
            B_L_law_2028 N rec_23 m265 x4
          ) else (
            some ((0 : Int32), m265)
          )
        ) else (
          B_L_law_2028 N rec_23 m265 x4
        )
      ) else (
        some ((0 : Int32), m265)
      )
    ) else (
    if ((xs (ix x4)) &&& (31 : Int32)) = (26 : Int32) then (
      gd (inb (x4 + (1 : Int32)) L) <|
      cal (F_L_learn N m (xs (ix (x4 + (1 : Int32))))) fun r271 m270 =>
      gd (inb (x4 + (1 : Int32)) L) <|
      cal (F_X8_learn N m270 (xs (ix (x4 + (1 : Int32))))) fun r275 m274 =>
      cal (F_X8_thrown N m274) fun r278 m277 =>
      if r278 = r271 then (
        if r271 = (0 : Int32) then (
          gd (inb (0 : Int32) (alen 108)) <|
          if (lg_cmp (m277 108 (ix (0 : Int32))).toInt64 (r275).toInt64) = (0 : Int32) then (
            B_L_law_2084 N rec_23 m277 x4
          ) else (
            some ((0 : Int32), m277)
          )
        ) else (
          B_L_law_2084 N rec_23 m277 x4
        )
      ) else (
        some ((0 : Int32), m277)
      )
    ) else (
    if ((xs (ix x4)) &&& (31 : Int32)) = (27 : Int32) then (
      cal (F_X7_guess N m) fun r282 m281 =>
      cal (F_X8_guess N m281) fun r285 m284 =>
      if r282 = r285 then (
        B_L_law_2100 N rec_23 m284 x4
      ) else (
        some ((0 : Int32), m284)
      )
    ) else (
      B_L_law_2100 N rec_23 m x4
    ))))))))))))))))))))))))))))
  )
def L_L_law_23 (N L : Nat) (xs : Nat → Int32) : Nat → Mem → Int32 → Option (Int32 × Mem)
  | 0 => fun _ _ => none
  | f + 1 => S_L_law_23 N L xs (L_L_law_23 N L xs f)
set_option maxRecDepth 100000 in
set_option maxHeartbeats 40000000 in
theorem lp_L_law_23 {N b L : Nat} {xs : Nat → Int32} {K : KT} {N0 : Nat} {m' : Mem} (hK : KOK K cL_law 7 RL wsL_law 11 N0 406) (hB : KB K) (hL : KL K b L xs) (hR : KLr K N0) : ∀ (f : Nat) {n : Nat} {m : Mem} {x4 : Int32} (hn : n + f * 7 ≤ N0), L_L_law_23 N L xs f m x4 = some (1, m') → AW K n 23 [(0, q_v (.ref b)), (1, q_r 0), (2, q_r 70), (3, q_r 108), (4, q_i x4)] [] m := by
  intro f
  induction f with
  | zero => intro n m x4 hn hF; cases hF
  | succ f hrec_23 =>
    intro n m x4 hn hF
    have hF : S_L_law_23 N L xs (L_L_law_23 N L xs f) m x4 = some (1, m') := hF
    unfold S_L_law_23 at hF
    refine aw_iload hK 4 rfl dL_law_23 ?_
    refine aw_aloadV_n hK 0 rfl dL_law_25 ?_
    refine aw_slen hK hL dL_law_26 ?_
    refine aw_bipush hK (6) rfl dL_law_27 ?_
    refine aw_isub hK dL_law_29 ?_
    refine aw_icmp_gt hK 2106 rfl dL_law_30 (fun hc => ?_) (fun hc => ?_)
    · have hF := if_t hF hc
      refine aw_iconst hK (1) rfl dL_law_2106 ?_
      obtain ⟨e1, rfl⟩ := so_inj hF
      exact aw_iretL hK hR (by omega) dL_law_2107
    · have hF := if_f hF hc
      refine aw_aloadV_n hK 0 rfl dL_law_33 ?_
      refine aw_iload hK 4 rfl dL_law_34 ?_
      obtain ⟨g1, hF⟩ := gd_some hF
      refine aw_sld hK hL g1 dL_law_36 ?_
      refine aw_bipush hK (31) rfl dL_law_37 ?_
      refine aw_iand hK dL_law_39 ?_
      by_cases hc0 : ((xs (ix x4)) &&& (31 : Int32)) = (0 : Int32)
      · have hF := if_t hF hc0
        refine aw_tin hK (0) _ 168 hc0 (by decide) (by decide) rfl rfl dL_law_40 ?_
        refine aw_aload_n hK 1 rfl dL_law_168 ?_
        refine aw_aloadV_n hK 0 rfl dL_law_169 ?_
        refine aw_iload hK 4 rfl dL_law_170 ?_
        refine aw_iconst hK (1) rfl dL_law_172 ?_
        refine aw_iadd hK dL_law_173 ?_
        obtain ⟨g2, hF⟩ := gd_some hF
        refine aw_sld hK hL g2 dL_law_174 ?_
        refine aw_aload_n hK 3 rfl dL_law_175 ?_
        obtain ⟨r5, m4, h3, hF⟩ := cal_some hF
        refine aw_csW hK hB (as := [q_r 0, q_i (xs (ix (x4 + (1 : Int32)))), q_r 108]) (trW_L_type h3) gL_law_L_type rfl (na := 3) (by decide +kernel) rfl ⟨by decide, by decide⟩ (by omega) (Nat.le_of_ble_eq_true rfl) dL_law_176 ?_
        refine aw_istore hK [(5, q_i r5), (0, q_v (.ref b)), (1, q_r 0), (2, q_r 70), (3, q_r 108), (4, q_i x4)] (by decide) rfl dL_law_179 ?_
        refine aw_aload_n hK 3 rfl dL_law_181 ?_
        refine aw_aloadV_n hK 1 rfl dL_law_182 ?_
        refine aw_iload hK 5 rfl dL_law_183 ?_
        refine aw_iconst hK (1) rfl dL_law_185 ?_
        refine aw_iadd hK dL_law_186 ?_
        obtain ⟨g6, hF⟩ := gd_some hF
        refine aw_sld hK hL g6 dL_law_187 ?_
        obtain ⟨r9, m8, h7, hF⟩ := cal_some hF
        refine aw_cv hK 8 (as := [q_i (xs (ix (x4 + (1 : Int32))))]) (tr_X8_type h7) gL_law_X8_type rfl rfl rfl (by decide) (na := 1) (by decide +kernel) rfl ⟨by decide, by decide⟩ (by omega) (Nat.le_of_ble_eq_true rfl) dL_law_188 ?_
        refine aw_istore hK [(6, q_i r9), (5, q_i r5), (0, q_v (.ref b)), (1, q_r 0), (2, q_r 70), (3, q_r 108), (4, q_i x4)] (by decide) rfl dL_law_191 ?_
        refine aw_aload_n hK 4 rfl dL_law_193 ?_
        obtain ⟨r12, m11, h10, hF⟩ := cal_some hF
        refine aw_cv hK 8 (as := []) (tr_X8_thrown h10) gL_law_X8_thrown rfl rfl rfl (by decide) (na := 0) (by decide +kernel) rfl ⟨by decide, by decide⟩ (by omega) (Nat.le_of_ble_eq_true rfl) dL_law_194 ?_
        refine aw_iload hK 1 rfl dL_law_197 ?_
        refine aw_icmp_eq hK 204 rfl dL_law_199 (fun hc => ?_) (fun hc => ?_)
        · have hF := if_t hF hc
          refine aw_iload hK 1 rfl dL_law_204 ?_
          refine aw_if_ne hK 221 rfl dL_law_206 (fun hc => ?_) (fun hc => ?_)
          · have hF := if_f hF hc
            refine aw_wd (n' := n + 7) (by omega) ?_
            refine aw_sub [2, 3, 4, 5, 6] (lv' := [(0, q_v (.ref b)), (1, q_r 0), (2, q_r 70), (3, q_r 108), (4, q_i x4)]) rfl ?_
            exact bk_L_law_221 hK hB hL hR hrec_23 (by omega) hF
          · have hF := if_t hF hc
            refine aw_aload_n hK 5 rfl dL_law_209 ?_
            refine aw_iconst hK (0) rfl dL_law_210 ?_
            obtain ⟨g13, hF⟩ := gd_some hF
            refine aw_lald hK rfl g13 dL_law_211 ?_
            refine aw_iload hK 0 rfl dL_law_212 ?_
            refine aw_i2l hK dL_law_214 ?_
            refine aw_lcmp hK dL_law_215 ?_
            refine aw_if_eq hK 221 rfl dL_law_216 (fun hc => ?_) (fun hc => ?_)
            · have hF := if_t hF hc
              refine aw_wd (n' := n + 7) (by omega) ?_
              refine aw_sub [2, 3, 4, 5, 6] (lv' := [(0, q_v (.ref b)), (1, q_r 0), (2, q_r 70), (3, q_r 108), (4, q_i x4)]) rfl ?_
              exact bk_L_law_221 hK hB hL hR hrec_23 (by omega) hF
            · have hF := if_f hF hc
              refine aw_iconst hK (0) rfl dL_law_219 ?_
              obtain ⟨e1, rfl⟩ := so_inj hF
              exact absurd e1 (by decide)
        · have hF := if_f hF hc
          refine aw_iconst hK (0) rfl dL_law_202 ?_
          obtain ⟨e1, rfl⟩ := so_inj hF
          exact absurd e1 (by decide)
      have hF := if_f hF hc0
      by_cases hc1 : ((xs (ix x4)) &&& (31 : Int32)) = (1 : Int32)
      · have hF := if_t hF hc1
        refine aw_tin hK (1) _ 224 hc1 (by decide) (by decide) rfl rfl dL_law_40 ?_
        refine aw_aload_n hK 1 rfl dL_law_224 ?_
        obtain ⟨r16, m15, h14, hF⟩ := cal_some hF
        refine aw_cv hK 7 (as := []) (tr_X7_clear h14) gL_law_X7_clear rfl rfl rfl (by decide) (na := 0) (by decide +kernel) rfl ⟨by decide, by decide⟩ (by omega) (Nat.le_of_ble_eq_true rfl) dL_law_225 ?_
        refine aw_aload_n hK 2 rfl dL_law_228 ?_
        obtain ⟨r19, m18, h17, hF⟩ := cal_some hF
        refine aw_cv hK 8 (as := []) (tr_X8_clear h17) gL_law_X8_clear rfl rfl rfl (by decide) (na := 0) (by decide +kernel) rfl ⟨by decide, by decide⟩ (by omega) (Nat.le_of_ble_eq_true rfl) dL_law_229 ?_
        refine aw_icmp_eq hK 2100 rfl dL_law_232 (fun hc => ?_) (fun hc => ?_)
        · have hF := if_t hF hc
          refine aw_wd (n' := n + 7) (by omega) ?_
          refine aw_sub [0, 1, 2, 3, 4] (lv' := [(0, q_v (.ref b)), (1, q_r 0), (2, q_r 70), (3, q_r 108), (4, q_i x4)]) rfl ?_
          exact bk_L_law_2100 hK hB hL hR hrec_23 (by omega) hF
        · have hF := if_f hF hc
          refine aw_iconst hK (0) rfl dL_law_235 ?_
          obtain ⟨e1, rfl⟩ := so_inj hF
          exact absurd e1 (by decide)
      have hF := if_f hF hc1
      by_cases hc2 : ((xs (ix x4)) &&& (31 : Int32)) = (2 : Int32)
      · have hF := if_t hF hc2
        refine aw_tin hK (2) _ 237 hc2 (by decide) (by decide) rfl rfl dL_law_40 ?_
        refine aw_aload_n hK 1 rfl dL_law_237 ?_
        refine aw_aloadV_n hK 0 rfl dL_law_238 ?_
        refine aw_iload hK 4 rfl dL_law_239 ?_
        refine aw_iconst hK (1) rfl dL_law_241 ?_
        refine aw_iadd hK dL_law_242 ?_
        obtain ⟨g20, hF⟩ := gd_some hF
        refine aw_sld hK hL g20 dL_law_243 ?_
        refine aw_aloadV_n hK 0 rfl dL_law_244 ?_
        refine aw_iload hK 4 rfl dL_law_245 ?_
        refine aw_iconst hK (2) rfl dL_law_247 ?_
        refine aw_iadd hK dL_law_248 ?_
        obtain ⟨g21, hF⟩ := gd_some hF
        refine aw_sld hK hL g21 dL_law_249 ?_
        refine aw_aloadV_n hK 0 rfl dL_law_250 ?_
        refine aw_iload hK 4 rfl dL_law_251 ?_
        refine aw_iconst hK (3) rfl dL_law_253 ?_
        refine aw_iadd hK dL_law_254 ?_
        obtain ⟨g22, hF⟩ := gd_some hF
        refine aw_sld hK hL g22 dL_law_255 ?_
        refine aw_aload_n hK 3 rfl dL_law_256 ?_
        obtain ⟨r25, m24, h23, hF⟩ := cal_some hF
        refine aw_csW hK hB (as := [q_r 0, q_i (xs (ix (x4 + (1 : Int32)))), q_i (xs (ix (x4 + (2 : Int32)))), q_i (xs (ix (x4 + (3 : Int32)))), q_r 108]) (trW_L_pair h23) gL_law_L_pair rfl (na := 5) (by decide +kernel) rfl ⟨by decide, by decide⟩ (by omega) (Nat.le_of_ble_eq_true rfl) dL_law_257 ?_
        refine aw_istore hK [(5, q_i r25), (0, q_v (.ref b)), (1, q_r 0), (2, q_r 70), (3, q_r 108), (4, q_i x4)] (by decide) rfl dL_law_260 ?_
        refine aw_aload_n hK 3 rfl dL_law_262 ?_
        refine aw_aloadV_n hK 1 rfl dL_law_263 ?_
        refine aw_iload hK 5 rfl dL_law_264 ?_
        refine aw_iconst hK (1) rfl dL_law_266 ?_
        refine aw_iadd hK dL_law_267 ?_
        obtain ⟨g26, hF⟩ := gd_some hF
        refine aw_sld hK hL g26 dL_law_268 ?_
        refine aw_aloadV_n hK 1 rfl dL_law_269 ?_
        refine aw_iload hK 5 rfl dL_law_270 ?_
        refine aw_iconst hK (2) rfl dL_law_272 ?_
        refine aw_iadd hK dL_law_273 ?_
        obtain ⟨g27, hF⟩ := gd_some hF
        refine aw_sld hK hL g27 dL_law_274 ?_
        refine aw_aloadV_n hK 1 rfl dL_law_275 ?_
        refine aw_iload hK 5 rfl dL_law_276 ?_
        refine aw_iconst hK (3) rfl dL_law_278 ?_
        refine aw_iadd hK dL_law_279 ?_
        obtain ⟨g28, hF⟩ := gd_some hF
        refine aw_sld hK hL g28 dL_law_280 ?_
        obtain ⟨r31, m30, h29, hF⟩ := cal_some hF
        refine aw_cv hK 8 (as := [q_i (xs (ix (x4 + (1 : Int32)))), q_i (xs (ix (x4 + (2 : Int32)))), q_i (xs (ix (x4 + (3 : Int32))))]) (tr_X8_pair h29) gL_law_X8_pair rfl rfl rfl (by decide) (na := 3) (by decide +kernel) rfl ⟨by decide, by decide⟩ (by omega) (Nat.le_of_ble_eq_true rfl) dL_law_281 ?_
        refine aw_istore hK [(6, q_i r31), (5, q_i r25), (0, q_v (.ref b)), (1, q_r 0), (2, q_r 70), (3, q_r 108), (4, q_i x4)] (by decide) rfl dL_law_284 ?_
        refine aw_aload_n hK 4 rfl dL_law_286 ?_
        obtain ⟨r34, m33, h32, hF⟩ := cal_some hF
        refine aw_cv hK 8 (as := []) (tr_X8_thrown h32) gL_law_X8_thrown rfl rfl rfl (by decide) (na := 0) (by decide +kernel) rfl ⟨by decide, by decide⟩ (by omega) (Nat.le_of_ble_eq_true rfl) dL_law_287 ?_
        refine aw_iload hK 1 rfl dL_law_290 ?_
        refine aw_icmp_eq hK 297 rfl dL_law_292 (fun hc => ?_) (fun hc => ?_)
        · have hF := if_t hF hc
          refine aw_iload hK 1 rfl dL_law_297 ?_
          refine aw_if_ne hK 314 rfl dL_law_299 (fun hc => ?_) (fun hc => ?_)
          · have hF := if_f hF hc
            refine aw_wd (n' := n + 7) (by omega) ?_
            refine aw_sub [2, 3, 4, 5, 6] (lv' := [(0, q_v (.ref b)), (1, q_r 0), (2, q_r 70), (3, q_r 108), (4, q_i x4)]) rfl ?_
            exact bk_L_law_314 hK hB hL hR hrec_23 (by omega) hF
          · have hF := if_t hF hc
            refine aw_aload_n hK 5 rfl dL_law_302 ?_
            refine aw_iconst hK (0) rfl dL_law_303 ?_
            obtain ⟨g35, hF⟩ := gd_some hF
            refine aw_lald hK rfl g35 dL_law_304 ?_
            refine aw_iload hK 0 rfl dL_law_305 ?_
            refine aw_i2l hK dL_law_307 ?_
            refine aw_lcmp hK dL_law_308 ?_
            refine aw_if_eq hK 314 rfl dL_law_309 (fun hc => ?_) (fun hc => ?_)
            · have hF := if_t hF hc
              refine aw_wd (n' := n + 7) (by omega) ?_
              refine aw_sub [2, 3, 4, 5, 6] (lv' := [(0, q_v (.ref b)), (1, q_r 0), (2, q_r 70), (3, q_r 108), (4, q_i x4)]) rfl ?_
              exact bk_L_law_314 hK hB hL hR hrec_23 (by omega) hF
            · have hF := if_f hF hc
              refine aw_iconst hK (0) rfl dL_law_312 ?_
              obtain ⟨e1, rfl⟩ := so_inj hF
              exact absurd e1 (by decide)
        · have hF := if_f hF hc
          refine aw_iconst hK (0) rfl dL_law_295 ?_
          obtain ⟨e1, rfl⟩ := so_inj hF
          exact absurd e1 (by decide)
      have hF := if_f hF hc2
      by_cases hc3 : ((xs (ix x4)) &&& (31 : Int32)) = (3 : Int32)
      · have hF := if_t hF hc3
        refine aw_tin hK (3) _ 317 hc3 (by decide) (by decide) rfl rfl dL_law_40 ?_
        refine aw_aload_n hK 1 rfl dL_law_317 ?_
        refine aw_aload_n hK 3 rfl dL_law_318 ?_
        obtain ⟨r38, m37, h36, hF⟩ := cal_some hF
        refine aw_csW hK hB (as := [q_r 0, q_r 108]) (trW_L_word h36) gL_law_L_word rfl (na := 2) (by decide +kernel) rfl ⟨by decide, by decide⟩ (by omega) (Nat.le_of_ble_eq_true rfl) dL_law_319 ?_
        refine aw_istore hK [(5, q_i r38), (0, q_v (.ref b)), (1, q_r 0), (2, q_r 70), (3, q_r 108), (4, q_i x4)] (by decide) rfl dL_law_322 ?_
        refine aw_aload_n hK 3 rfl dL_law_324 ?_
        obtain ⟨r41, m40, h39, hF⟩ := cal_some hF
        refine aw_cv hK 8 (as := []) (tr_X8_word h39) gL_law_X8_word rfl rfl rfl (by decide) (na := 0) (by decide +kernel) rfl ⟨by decide, by decide⟩ (by omega) (Nat.le_of_ble_eq_true rfl) dL_law_325 ?_
        refine aw_istore hK [(6, q_i r41), (5, q_i r38), (0, q_v (.ref b)), (1, q_r 0), (2, q_r 70), (3, q_r 108), (4, q_i x4)] (by decide) rfl dL_law_328 ?_
        refine aw_aload_n hK 4 rfl dL_law_330 ?_
        obtain ⟨r44, m43, h42, hF⟩ := cal_some hF
        refine aw_cv hK 8 (as := []) (tr_X8_thrown h42) gL_law_X8_thrown rfl rfl rfl (by decide) (na := 0) (by decide +kernel) rfl ⟨by decide, by decide⟩ (by omega) (Nat.le_of_ble_eq_true rfl) dL_law_331 ?_
        refine aw_iload hK 1 rfl dL_law_334 ?_
        refine aw_icmp_eq hK 341 rfl dL_law_336 (fun hc => ?_) (fun hc => ?_)
        · have hF := if_t hF hc
          refine aw_iload hK 1 rfl dL_law_341 ?_
          refine aw_if_ne hK 358 rfl dL_law_343 (fun hc => ?_) (fun hc => ?_)
          · have hF := if_f hF hc
            refine aw_wd (n' := n + 7) (by omega) ?_
            refine aw_sub [2, 3, 4, 5, 6] (lv' := [(0, q_v (.ref b)), (1, q_r 0), (2, q_r 70), (3, q_r 108), (4, q_i x4)]) rfl ?_
            exact bk_L_law_358 hK hB hL hR hrec_23 (by omega) hF
          · have hF := if_t hF hc
            refine aw_aload_n hK 5 rfl dL_law_346 ?_
            refine aw_iconst hK (0) rfl dL_law_347 ?_
            obtain ⟨g45, hF⟩ := gd_some hF
            refine aw_lald hK rfl g45 dL_law_348 ?_
            refine aw_iload hK 0 rfl dL_law_349 ?_
            refine aw_i2l hK dL_law_351 ?_
            refine aw_lcmp hK dL_law_352 ?_
            refine aw_if_eq hK 358 rfl dL_law_353 (fun hc => ?_) (fun hc => ?_)
            · have hF := if_t hF hc
              refine aw_wd (n' := n + 7) (by omega) ?_
              refine aw_sub [2, 3, 4, 5, 6] (lv' := [(0, q_v (.ref b)), (1, q_r 0), (2, q_r 70), (3, q_r 108), (4, q_i x4)]) rfl ?_
              exact bk_L_law_358 hK hB hL hR hrec_23 (by omega) hF
            · have hF := if_f hF hc
              refine aw_iconst hK (0) rfl dL_law_356 ?_
              obtain ⟨e1, rfl⟩ := so_inj hF
              exact absurd e1 (by decide)
        · have hF := if_f hF hc
          refine aw_iconst hK (0) rfl dL_law_339 ?_
          obtain ⟨e1, rfl⟩ := so_inj hF
          exact absurd e1 (by decide)
      have hF := if_f hF hc3
      by_cases hc4 : ((xs (ix x4)) &&& (31 : Int32)) = (4 : Int32)
      · have hF := if_t hF hc4
        refine aw_tin hK (4) _ 361 hc4 (by decide) (by decide) rfl rfl dL_law_40 ?_
        refine aw_aload_n hK 1 rfl dL_law_361 ?_
        refine aw_aload_n hK 3 rfl dL_law_362 ?_
        obtain ⟨r48, m47, h46, hF⟩ := cal_some hF
        refine aw_csW hK hB (as := [q_r 0, q_r 108]) (trW_L_any h46) gL_law_L_any rfl (na := 2) (by decide +kernel) rfl ⟨by decide, by decide⟩ (by omega) (Nat.le_of_ble_eq_true rfl) dL_law_363 ?_
        refine aw_istore hK [(5, q_i r48), (0, q_v (.ref b)), (1, q_r 0), (2, q_r 70), (3, q_r 108), (4, q_i x4)] (by decide) rfl dL_law_366 ?_
        refine aw_aload_n hK 3 rfl dL_law_368 ?_
        obtain ⟨r51, m50, h49, hF⟩ := cal_some hF
        refine aw_cv hK 8 (as := []) (tr_X8_any h49) gL_law_X8_any rfl rfl rfl (by decide) (na := 0) (by decide +kernel) rfl ⟨by decide, by decide⟩ (by omega) (Nat.le_of_ble_eq_true rfl) dL_law_369 ?_
        refine aw_istore hK [(6, q_i r51), (5, q_i r48), (0, q_v (.ref b)), (1, q_r 0), (2, q_r 70), (3, q_r 108), (4, q_i x4)] (by decide) rfl dL_law_372 ?_
        refine aw_aload_n hK 4 rfl dL_law_374 ?_
        obtain ⟨r54, m53, h52, hF⟩ := cal_some hF
        refine aw_cv hK 8 (as := []) (tr_X8_thrown h52) gL_law_X8_thrown rfl rfl rfl (by decide) (na := 0) (by decide +kernel) rfl ⟨by decide, by decide⟩ (by omega) (Nat.le_of_ble_eq_true rfl) dL_law_375 ?_
        refine aw_iload hK 1 rfl dL_law_378 ?_
        refine aw_icmp_eq hK 385 rfl dL_law_380 (fun hc => ?_) (fun hc => ?_)
        · have hF := if_t hF hc
          refine aw_iload hK 1 rfl dL_law_385 ?_
          refine aw_if_ne hK 402 rfl dL_law_387 (fun hc => ?_) (fun hc => ?_)
          · have hF := if_f hF hc
            refine aw_wd (n' := n + 7) (by omega) ?_
            refine aw_sub [2, 3, 4, 5, 6] (lv' := [(0, q_v (.ref b)), (1, q_r 0), (2, q_r 70), (3, q_r 108), (4, q_i x4)]) rfl ?_
            exact bk_L_law_402 hK hB hL hR hrec_23 (by omega) hF
          · have hF := if_t hF hc
            refine aw_aload_n hK 5 rfl dL_law_390 ?_
            refine aw_iconst hK (0) rfl dL_law_391 ?_
            obtain ⟨g55, hF⟩ := gd_some hF
            refine aw_lald hK rfl g55 dL_law_392 ?_
            refine aw_iload hK 0 rfl dL_law_393 ?_
            refine aw_i2l hK dL_law_395 ?_
            refine aw_lcmp hK dL_law_396 ?_
            refine aw_if_eq hK 402 rfl dL_law_397 (fun hc => ?_) (fun hc => ?_)
            · have hF := if_t hF hc
              refine aw_wd (n' := n + 7) (by omega) ?_
              refine aw_sub [2, 3, 4, 5, 6] (lv' := [(0, q_v (.ref b)), (1, q_r 0), (2, q_r 70), (3, q_r 108), (4, q_i x4)]) rfl ?_
              exact bk_L_law_402 hK hB hL hR hrec_23 (by omega) hF
            · have hF := if_f hF hc
              refine aw_iconst hK (0) rfl dL_law_400 ?_
              obtain ⟨e1, rfl⟩ := so_inj hF
              exact absurd e1 (by decide)
        · have hF := if_f hF hc
          refine aw_iconst hK (0) rfl dL_law_383 ?_
          obtain ⟨e1, rfl⟩ := so_inj hF
          exact absurd e1 (by decide)
      have hF := if_f hF hc4
      by_cases hc5 : ((xs (ix x4)) &&& (31 : Int32)) = (5 : Int32)
      · have hF := if_t hF hc5
        refine aw_tin hK (5) _ 405 hc5 (by decide) (by decide) rfl rfl dL_law_40 ?_
        refine aw_aload_n hK 1 rfl dL_law_405 ?_
        refine aw_aloadV_n hK 0 rfl dL_law_406 ?_
        refine aw_iload hK 4 rfl dL_law_407 ?_
        refine aw_iconst hK (1) rfl dL_law_409 ?_
        refine aw_iadd hK dL_law_410 ?_
        obtain ⟨g56, hF⟩ := gd_some hF
        refine aw_sld hK hL g56 dL_law_411 ?_
        refine aw_aloadV_n hK 0 rfl dL_law_412 ?_
        refine aw_iload hK 4 rfl dL_law_413 ?_
        refine aw_iconst hK (2) rfl dL_law_415 ?_
        refine aw_iadd hK dL_law_416 ?_
        obtain ⟨g57, hF⟩ := gd_some hF
        refine aw_sld hK hL g57 dL_law_417 ?_
        refine aw_aload_n hK 3 rfl dL_law_418 ?_
        obtain ⟨r60, m59, h58, hF⟩ := cal_some hF
        refine aw_csW hK hB (as := [q_r 0, q_i (xs (ix (x4 + (1 : Int32)))), q_i (xs (ix (x4 + (2 : Int32)))), q_r 108]) (trW_L_join h58) gL_law_L_join rfl (na := 4) (by decide +kernel) rfl ⟨by decide, by decide⟩ (by omega) (Nat.le_of_ble_eq_true rfl) dL_law_419 ?_
        refine aw_istore hK [(5, q_i r60), (0, q_v (.ref b)), (1, q_r 0), (2, q_r 70), (3, q_r 108), (4, q_i x4)] (by decide) rfl dL_law_422 ?_
        refine aw_aload_n hK 3 rfl dL_law_424 ?_
        refine aw_aloadV_n hK 1 rfl dL_law_425 ?_
        refine aw_iload hK 5 rfl dL_law_426 ?_
        refine aw_iconst hK (1) rfl dL_law_428 ?_
        refine aw_iadd hK dL_law_429 ?_
        obtain ⟨g61, hF⟩ := gd_some hF
        refine aw_sld hK hL g61 dL_law_430 ?_
        refine aw_aloadV_n hK 1 rfl dL_law_431 ?_
        refine aw_iload hK 5 rfl dL_law_432 ?_
        refine aw_iconst hK (2) rfl dL_law_434 ?_
        refine aw_iadd hK dL_law_435 ?_
        obtain ⟨g62, hF⟩ := gd_some hF
        refine aw_sld hK hL g62 dL_law_436 ?_
        obtain ⟨r65, m64, h63, hF⟩ := cal_some hF
        refine aw_cv hK 8 (as := [q_i (xs (ix (x4 + (1 : Int32)))), q_i (xs (ix (x4 + (2 : Int32))))]) (tr_X8_join h63) gL_law_X8_join rfl rfl rfl (by decide) (na := 2) (by decide +kernel) rfl ⟨by decide, by decide⟩ (by omega) (Nat.le_of_ble_eq_true rfl) dL_law_437 ?_
        refine aw_istore hK [(6, q_i r65), (5, q_i r60), (0, q_v (.ref b)), (1, q_r 0), (2, q_r 70), (3, q_r 108), (4, q_i x4)] (by decide) rfl dL_law_440 ?_
        refine aw_aload_n hK 4 rfl dL_law_442 ?_
        obtain ⟨r68, m67, h66, hF⟩ := cal_some hF
        refine aw_cv hK 8 (as := []) (tr_X8_thrown h66) gL_law_X8_thrown rfl rfl rfl (by decide) (na := 0) (by decide +kernel) rfl ⟨by decide, by decide⟩ (by omega) (Nat.le_of_ble_eq_true rfl) dL_law_443 ?_
        refine aw_iload hK 1 rfl dL_law_446 ?_
        refine aw_icmp_eq hK 453 rfl dL_law_448 (fun hc => ?_) (fun hc => ?_)
        · have hF := if_t hF hc
          refine aw_iload hK 1 rfl dL_law_453 ?_
          refine aw_if_ne hK 470 rfl dL_law_455 (fun hc => ?_) (fun hc => ?_)
          · have hF := if_f hF hc
            refine aw_wd (n' := n + 7) (by omega) ?_
            refine aw_sub [2, 3, 4, 5, 6] (lv' := [(0, q_v (.ref b)), (1, q_r 0), (2, q_r 70), (3, q_r 108), (4, q_i x4)]) rfl ?_
            exact bk_L_law_470 hK hB hL hR hrec_23 (by omega) hF
          · have hF := if_t hF hc
            refine aw_aload_n hK 5 rfl dL_law_458 ?_
            refine aw_iconst hK (0) rfl dL_law_459 ?_
            obtain ⟨g69, hF⟩ := gd_some hF
            refine aw_lald hK rfl g69 dL_law_460 ?_
            refine aw_iload hK 0 rfl dL_law_461 ?_
            refine aw_i2l hK dL_law_463 ?_
            refine aw_lcmp hK dL_law_464 ?_
            refine aw_if_eq hK 470 rfl dL_law_465 (fun hc => ?_) (fun hc => ?_)
            · have hF := if_t hF hc
              refine aw_wd (n' := n + 7) (by omega) ?_
              refine aw_sub [2, 3, 4, 5, 6] (lv' := [(0, q_v (.ref b)), (1, q_r 0), (2, q_r 70), (3, q_r 108), (4, q_i x4)]) rfl ?_
              exact bk_L_law_470 hK hB hL hR hrec_23 (by omega) hF
            · have hF := if_f hF hc
              refine aw_iconst hK (0) rfl dL_law_468 ?_
              obtain ⟨e1, rfl⟩ := so_inj hF
              exact absurd e1 (by decide)
        · have hF := if_f hF hc
          refine aw_iconst hK (0) rfl dL_law_451 ?_
          obtain ⟨e1, rfl⟩ := so_inj hF
          exact absurd e1 (by decide)
      have hF := if_f hF hc5
      by_cases hc6 : ((xs (ix x4)) &&& (31 : Int32)) = (6 : Int32)
      · have hF := if_t hF hc6
        refine aw_tin hK (6) _ 473 hc6 (by decide) (by decide) rfl rfl dL_law_40 ?_
        refine aw_aload_n hK 1 rfl dL_law_473 ?_
        refine aw_aloadV_n hK 0 rfl dL_law_474 ?_
        refine aw_iload hK 4 rfl dL_law_475 ?_
        refine aw_iconst hK (1) rfl dL_law_477 ?_
        refine aw_iadd hK dL_law_478 ?_
        obtain ⟨g70, hF⟩ := gd_some hF
        refine aw_sld hK hL g70 dL_law_479 ?_
        refine aw_aloadV_n hK 0 rfl dL_law_480 ?_
        refine aw_iload hK 4 rfl dL_law_481 ?_
        refine aw_iconst hK (2) rfl dL_law_483 ?_
        refine aw_iadd hK dL_law_484 ?_
        obtain ⟨g71, hF⟩ := gd_some hF
        refine aw_sld hK hL g71 dL_law_485 ?_
        refine aw_aload_n hK 3 rfl dL_law_486 ?_
        obtain ⟨r74, m73, h72, hF⟩ := cal_some hF
        refine aw_csW hK hB (as := [q_r 0, q_i (xs (ix (x4 + (1 : Int32)))), q_i (xs (ix (x4 + (2 : Int32)))), q_r 108]) (trW_L_unite h72) gL_law_L_unite rfl (na := 4) (by decide +kernel) rfl ⟨by decide, by decide⟩ (by omega) (Nat.le_of_ble_eq_true rfl) dL_law_487 ?_
        refine aw_istore hK [(5, q_i r74), (0, q_v (.ref b)), (1, q_r 0), (2, q_r 70), (3, q_r 108), (4, q_i x4)] (by decide) rfl dL_law_490 ?_
        refine aw_aload_n hK 3 rfl dL_law_492 ?_
        refine aw_aloadV_n hK 1 rfl dL_law_493 ?_
        refine aw_iload hK 5 rfl dL_law_494 ?_
        refine aw_iconst hK (1) rfl dL_law_496 ?_
        refine aw_iadd hK dL_law_497 ?_
        obtain ⟨g75, hF⟩ := gd_some hF
        refine aw_sld hK hL g75 dL_law_498 ?_
        refine aw_aloadV_n hK 1 rfl dL_law_499 ?_
        refine aw_iload hK 5 rfl dL_law_500 ?_
        refine aw_iconst hK (2) rfl dL_law_502 ?_
        refine aw_iadd hK dL_law_503 ?_
        obtain ⟨g76, hF⟩ := gd_some hF
        refine aw_sld hK hL g76 dL_law_504 ?_
        obtain ⟨r79, m78, h77, hF⟩ := cal_some hF
        refine aw_cv hK 8 (as := [q_i (xs (ix (x4 + (1 : Int32)))), q_i (xs (ix (x4 + (2 : Int32))))]) (tr_X8_unite h77) gL_law_X8_unite rfl rfl rfl (by decide) (na := 2) (by decide +kernel) rfl ⟨by decide, by decide⟩ (by omega) (Nat.le_of_ble_eq_true rfl) dL_law_505 ?_
        refine aw_istore hK [(6, q_i r79), (5, q_i r74), (0, q_v (.ref b)), (1, q_r 0), (2, q_r 70), (3, q_r 108), (4, q_i x4)] (by decide) rfl dL_law_508 ?_
        refine aw_aload_n hK 4 rfl dL_law_510 ?_
        obtain ⟨r82, m81, h80, hF⟩ := cal_some hF
        refine aw_cv hK 8 (as := []) (tr_X8_thrown h80) gL_law_X8_thrown rfl rfl rfl (by decide) (na := 0) (by decide +kernel) rfl ⟨by decide, by decide⟩ (by omega) (Nat.le_of_ble_eq_true rfl) dL_law_511 ?_
        refine aw_iload hK 1 rfl dL_law_514 ?_
        refine aw_icmp_eq hK 521 rfl dL_law_516 (fun hc => ?_) (fun hc => ?_)
        · have hF := if_t hF hc
          refine aw_iload hK 1 rfl dL_law_521 ?_
          refine aw_if_ne hK 538 rfl dL_law_523 (fun hc => ?_) (fun hc => ?_)
          · have hF := if_f hF hc
            refine aw_wd (n' := n + 7) (by omega) ?_
            refine aw_sub [2, 3, 4, 5, 6] (lv' := [(0, q_v (.ref b)), (1, q_r 0), (2, q_r 70), (3, q_r 108), (4, q_i x4)]) rfl ?_
            exact bk_L_law_538 hK hB hL hR hrec_23 (by omega) hF
          · have hF := if_t hF hc
            refine aw_aload_n hK 5 rfl dL_law_526 ?_
            refine aw_iconst hK (0) rfl dL_law_527 ?_
            obtain ⟨g83, hF⟩ := gd_some hF
            refine aw_lald hK rfl g83 dL_law_528 ?_
            refine aw_iload hK 0 rfl dL_law_529 ?_
            refine aw_i2l hK dL_law_531 ?_
            refine aw_lcmp hK dL_law_532 ?_
            refine aw_if_eq hK 538 rfl dL_law_533 (fun hc => ?_) (fun hc => ?_)
            · have hF := if_t hF hc
              refine aw_wd (n' := n + 7) (by omega) ?_
              refine aw_sub [2, 3, 4, 5, 6] (lv' := [(0, q_v (.ref b)), (1, q_r 0), (2, q_r 70), (3, q_r 108), (4, q_i x4)]) rfl ?_
              exact bk_L_law_538 hK hB hL hR hrec_23 (by omega) hF
            · have hF := if_f hF hc
              refine aw_iconst hK (0) rfl dL_law_536 ?_
              obtain ⟨e1, rfl⟩ := so_inj hF
              exact absurd e1 (by decide)
        · have hF := if_f hF hc
          refine aw_iconst hK (0) rfl dL_law_519 ?_
          obtain ⟨e1, rfl⟩ := so_inj hF
          exact absurd e1 (by decide)
      have hF := if_f hF hc6
      by_cases hc7 : ((xs (ix x4)) &&& (31 : Int32)) = (7 : Int32)
      · have hF := if_t hF hc7
        refine aw_tin hK (7) _ 541 hc7 (by decide) (by decide) rfl rfl dL_law_40 ?_
        refine aw_aload_n hK 1 rfl dL_law_541 ?_
        refine aw_aloadV_n hK 0 rfl dL_law_542 ?_
        refine aw_iload hK 4 rfl dL_law_543 ?_
        refine aw_iconst hK (1) rfl dL_law_545 ?_
        refine aw_iadd hK dL_law_546 ?_
        obtain ⟨g84, hF⟩ := gd_some hF
        refine aw_sld hK hL g84 dL_law_547 ?_
        refine aw_aload_n hK 3 rfl dL_law_548 ?_
        obtain ⟨r87, m86, h85, hF⟩ := cal_some hF
        refine aw_csW hK hB (as := [q_r 0, q_i (xs (ix (x4 + (1 : Int32)))), q_r 108]) (trW_L_repeat h85) gL_law_L_repeat rfl (na := 3) (by decide +kernel) rfl ⟨by decide, by decide⟩ (by omega) (Nat.le_of_ble_eq_true rfl) dL_law_549 ?_
        refine aw_istore hK [(5, q_i r87), (0, q_v (.ref b)), (1, q_r 0), (2, q_r 70), (3, q_r 108), (4, q_i x4)] (by decide) rfl dL_law_552 ?_
        refine aw_aload_n hK 3 rfl dL_law_554 ?_
        refine aw_aloadV_n hK 1 rfl dL_law_555 ?_
        refine aw_iload hK 5 rfl dL_law_556 ?_
        refine aw_iconst hK (1) rfl dL_law_558 ?_
        refine aw_iadd hK dL_law_559 ?_
        obtain ⟨g88, hF⟩ := gd_some hF
        refine aw_sld hK hL g88 dL_law_560 ?_
        obtain ⟨r91, m90, h89, hF⟩ := cal_some hF
        refine aw_cv hK 8 (as := [q_i (xs (ix (x4 + (1 : Int32))))]) (tr_X8_repeat h89) gL_law_X8_repeat rfl rfl rfl (by decide) (na := 1) (by decide +kernel) rfl ⟨by decide, by decide⟩ (by omega) (Nat.le_of_ble_eq_true rfl) dL_law_561 ?_
        refine aw_istore hK [(6, q_i r91), (5, q_i r87), (0, q_v (.ref b)), (1, q_r 0), (2, q_r 70), (3, q_r 108), (4, q_i x4)] (by decide) rfl dL_law_564 ?_
        refine aw_aload_n hK 4 rfl dL_law_566 ?_
        obtain ⟨r94, m93, h92, hF⟩ := cal_some hF
        refine aw_cv hK 8 (as := []) (tr_X8_thrown h92) gL_law_X8_thrown rfl rfl rfl (by decide) (na := 0) (by decide +kernel) rfl ⟨by decide, by decide⟩ (by omega) (Nat.le_of_ble_eq_true rfl) dL_law_567 ?_
        refine aw_iload hK 1 rfl dL_law_570 ?_
        refine aw_icmp_eq hK 577 rfl dL_law_572 (fun hc => ?_) (fun hc => ?_)
        · have hF := if_t hF hc
          refine aw_iload hK 1 rfl dL_law_577 ?_
          refine aw_if_ne hK 594 rfl dL_law_579 (fun hc => ?_) (fun hc => ?_)
          · have hF := if_f hF hc
            refine aw_wd (n' := n + 7) (by omega) ?_
            refine aw_sub [2, 3, 4, 5, 6] (lv' := [(0, q_v (.ref b)), (1, q_r 0), (2, q_r 70), (3, q_r 108), (4, q_i x4)]) rfl ?_
            exact bk_L_law_594 hK hB hL hR hrec_23 (by omega) hF
          · have hF := if_t hF hc
            refine aw_aload_n hK 5 rfl dL_law_582 ?_
            refine aw_iconst hK (0) rfl dL_law_583 ?_
            obtain ⟨g95, hF⟩ := gd_some hF
            refine aw_lald hK rfl g95 dL_law_584 ?_
            refine aw_iload hK 0 rfl dL_law_585 ?_
            refine aw_i2l hK dL_law_587 ?_
            refine aw_lcmp hK dL_law_588 ?_
            refine aw_if_eq hK 594 rfl dL_law_589 (fun hc => ?_) (fun hc => ?_)
            · have hF := if_t hF hc
              refine aw_wd (n' := n + 7) (by omega) ?_
              refine aw_sub [2, 3, 4, 5, 6] (lv' := [(0, q_v (.ref b)), (1, q_r 0), (2, q_r 70), (3, q_r 108), (4, q_i x4)]) rfl ?_
              exact bk_L_law_594 hK hB hL hR hrec_23 (by omega) hF
            · have hF := if_f hF hc
              refine aw_iconst hK (0) rfl dL_law_592 ?_
              obtain ⟨e1, rfl⟩ := so_inj hF
              exact absurd e1 (by decide)
        · have hF := if_f hF hc
          refine aw_iconst hK (0) rfl dL_law_575 ?_
          obtain ⟨e1, rfl⟩ := so_inj hF
          exact absurd e1 (by decide)
      have hF := if_f hF hc7
      by_cases hc8 : ((xs (ix x4)) &&& (31 : Int32)) = (8 : Int32)
      · have hF := if_t hF hc8
        refine aw_tin hK (8) _ 597 hc8 (by decide) (by decide) rfl rfl dL_law_40 ?_
        refine aw_aload_n hK 1 rfl dL_law_597 ?_
        refine aw_aloadV_n hK 0 rfl dL_law_598 ?_
        refine aw_iload hK 4 rfl dL_law_599 ?_
        refine aw_iconst hK (1) rfl dL_law_601 ?_
        refine aw_iadd hK dL_law_602 ?_
        obtain ⟨g96, hF⟩ := gd_some hF
        refine aw_sld hK hL g96 dL_law_603 ?_
        refine aw_aload_n hK 3 rfl dL_law_604 ?_
        obtain ⟨r99, m98, h97, hF⟩ := cal_some hF
        refine aw_csW hK hB (as := [q_r 0, q_i (xs (ix (x4 + (1 : Int32)))), q_r 108]) (trW_L_turn h97) gL_law_L_turn rfl (na := 3) (by decide +kernel) rfl ⟨by decide, by decide⟩ (by omega) (Nat.le_of_ble_eq_true rfl) dL_law_605 ?_
        refine aw_istore hK [(5, q_i r99), (0, q_v (.ref b)), (1, q_r 0), (2, q_r 70), (3, q_r 108), (4, q_i x4)] (by decide) rfl dL_law_608 ?_
        refine aw_aload_n hK 3 rfl dL_law_610 ?_
        refine aw_aloadV_n hK 1 rfl dL_law_611 ?_
        refine aw_iload hK 5 rfl dL_law_612 ?_
        refine aw_iconst hK (1) rfl dL_law_614 ?_
        refine aw_iadd hK dL_law_615 ?_
        obtain ⟨g100, hF⟩ := gd_some hF
        refine aw_sld hK hL g100 dL_law_616 ?_
        obtain ⟨r103, m102, h101, hF⟩ := cal_some hF
        refine aw_cv hK 8 (as := [q_i (xs (ix (x4 + (1 : Int32))))]) (tr_X8_turn h101) gL_law_X8_turn rfl rfl rfl (by decide) (na := 1) (by decide +kernel) rfl ⟨by decide, by decide⟩ (by omega) (Nat.le_of_ble_eq_true rfl) dL_law_617 ?_
        refine aw_istore hK [(6, q_i r103), (5, q_i r99), (0, q_v (.ref b)), (1, q_r 0), (2, q_r 70), (3, q_r 108), (4, q_i x4)] (by decide) rfl dL_law_620 ?_
        refine aw_aload_n hK 4 rfl dL_law_622 ?_
        obtain ⟨r106, m105, h104, hF⟩ := cal_some hF
        refine aw_cv hK 8 (as := []) (tr_X8_thrown h104) gL_law_X8_thrown rfl rfl rfl (by decide) (na := 0) (by decide +kernel) rfl ⟨by decide, by decide⟩ (by omega) (Nat.le_of_ble_eq_true rfl) dL_law_623 ?_
        refine aw_iload hK 1 rfl dL_law_626 ?_
        refine aw_icmp_eq hK 633 rfl dL_law_628 (fun hc => ?_) (fun hc => ?_)
        · have hF := if_t hF hc
          refine aw_iload hK 1 rfl dL_law_633 ?_
          refine aw_if_ne hK 650 rfl dL_law_635 (fun hc => ?_) (fun hc => ?_)
          · have hF := if_f hF hc
            refine aw_wd (n' := n + 7) (by omega) ?_
            refine aw_sub [2, 3, 4, 5, 6] (lv' := [(0, q_v (.ref b)), (1, q_r 0), (2, q_r 70), (3, q_r 108), (4, q_i x4)]) rfl ?_
            exact bk_L_law_650 hK hB hL hR hrec_23 (by omega) hF
          · have hF := if_t hF hc
            refine aw_aload_n hK 5 rfl dL_law_638 ?_
            refine aw_iconst hK (0) rfl dL_law_639 ?_
            obtain ⟨g107, hF⟩ := gd_some hF
            refine aw_lald hK rfl g107 dL_law_640 ?_
            refine aw_iload hK 0 rfl dL_law_641 ?_
            refine aw_i2l hK dL_law_643 ?_
            refine aw_lcmp hK dL_law_644 ?_
            refine aw_if_eq hK 650 rfl dL_law_645 (fun hc => ?_) (fun hc => ?_)
            · have hF := if_t hF hc
              refine aw_wd (n' := n + 7) (by omega) ?_
              refine aw_sub [2, 3, 4, 5, 6] (lv' := [(0, q_v (.ref b)), (1, q_r 0), (2, q_r 70), (3, q_r 108), (4, q_i x4)]) rfl ?_
              exact bk_L_law_650 hK hB hL hR hrec_23 (by omega) hF
            · have hF := if_f hF hc
              refine aw_iconst hK (0) rfl dL_law_648 ?_
              obtain ⟨e1, rfl⟩ := so_inj hF
              exact absurd e1 (by decide)
        · have hF := if_f hF hc
          refine aw_iconst hK (0) rfl dL_law_631 ?_
          obtain ⟨e1, rfl⟩ := so_inj hF
          exact absurd e1 (by decide)
      have hF := if_f hF hc8
      by_cases hc9 : ((xs (ix x4)) &&& (31 : Int32)) = (9 : Int32)
      · have hF := if_t hF hc9
        refine aw_tin hK (9) _ 653 hc9 (by decide) (by decide) rfl rfl dL_law_40 ?_
        refine aw_aload_n hK 1 rfl dL_law_653 ?_
        refine aw_aloadV_n hK 0 rfl dL_law_654 ?_
        refine aw_iload hK 4 rfl dL_law_655 ?_
        refine aw_iconst hK (1) rfl dL_law_657 ?_
        refine aw_iadd hK dL_law_658 ?_
        obtain ⟨g108, hF⟩ := gd_some hF
        refine aw_sld hK hL g108 dL_law_659 ?_
        refine aw_aloadV_n hK 0 rfl dL_law_660 ?_
        refine aw_iload hK 4 rfl dL_law_661 ?_
        refine aw_iconst hK (2) rfl dL_law_663 ?_
        refine aw_iadd hK dL_law_664 ?_
        obtain ⟨g109, hF⟩ := gd_some hF
        refine aw_sld hK hL g109 dL_law_665 ?_
        refine aw_aload_n hK 3 rfl dL_law_666 ?_
        obtain ⟨r112, m111, h110, hF⟩ := cal_some hF
        refine aw_csW hK hB (as := [q_r 0, q_i (xs (ix (x4 + (1 : Int32)))), q_i (xs (ix (x4 + (2 : Int32)))), q_r 108]) (trW_L_compose h110) gL_law_L_compose rfl (na := 4) (by decide +kernel) rfl ⟨by decide, by decide⟩ (by omega) (Nat.le_of_ble_eq_true rfl) dL_law_667 ?_
        refine aw_istore hK [(5, q_i r112), (0, q_v (.ref b)), (1, q_r 0), (2, q_r 70), (3, q_r 108), (4, q_i x4)] (by decide) rfl dL_law_670 ?_
        refine aw_aload_n hK 3 rfl dL_law_672 ?_
        refine aw_aloadV_n hK 1 rfl dL_law_673 ?_
        refine aw_iload hK 5 rfl dL_law_674 ?_
        refine aw_iconst hK (1) rfl dL_law_676 ?_
        refine aw_iadd hK dL_law_677 ?_
        obtain ⟨g113, hF⟩ := gd_some hF
        refine aw_sld hK hL g113 dL_law_678 ?_
        refine aw_aloadV_n hK 1 rfl dL_law_679 ?_
        refine aw_iload hK 5 rfl dL_law_680 ?_
        refine aw_iconst hK (2) rfl dL_law_682 ?_
        refine aw_iadd hK dL_law_683 ?_
        obtain ⟨g114, hF⟩ := gd_some hF
        refine aw_sld hK hL g114 dL_law_684 ?_
        obtain ⟨r117, m116, h115, hF⟩ := cal_some hF
        refine aw_cv hK 8 (as := [q_i (xs (ix (x4 + (1 : Int32)))), q_i (xs (ix (x4 + (2 : Int32))))]) (tr_X8_compose h115) gL_law_X8_compose rfl rfl rfl (by decide) (na := 2) (by decide +kernel) rfl ⟨by decide, by decide⟩ (by omega) (Nat.le_of_ble_eq_true rfl) dL_law_685 ?_
        refine aw_istore hK [(6, q_i r117), (5, q_i r112), (0, q_v (.ref b)), (1, q_r 0), (2, q_r 70), (3, q_r 108), (4, q_i x4)] (by decide) rfl dL_law_688 ?_
        refine aw_aload_n hK 4 rfl dL_law_690 ?_
        obtain ⟨r120, m119, h118, hF⟩ := cal_some hF
        refine aw_cv hK 8 (as := []) (tr_X8_thrown h118) gL_law_X8_thrown rfl rfl rfl (by decide) (na := 0) (by decide +kernel) rfl ⟨by decide, by decide⟩ (by omega) (Nat.le_of_ble_eq_true rfl) dL_law_691 ?_
        refine aw_iload hK 1 rfl dL_law_694 ?_
        refine aw_icmp_eq hK 701 rfl dL_law_696 (fun hc => ?_) (fun hc => ?_)
        · have hF := if_t hF hc
          refine aw_iload hK 1 rfl dL_law_701 ?_
          refine aw_if_ne hK 718 rfl dL_law_703 (fun hc => ?_) (fun hc => ?_)
          · have hF := if_f hF hc
            refine aw_wd (n' := n + 7) (by omega) ?_
            refine aw_sub [2, 3, 4, 5, 6] (lv' := [(0, q_v (.ref b)), (1, q_r 0), (2, q_r 70), (3, q_r 108), (4, q_i x4)]) rfl ?_
            exact bk_L_law_718 hK hB hL hR hrec_23 (by omega) hF
          · have hF := if_t hF hc
            refine aw_aload_n hK 5 rfl dL_law_706 ?_
            refine aw_iconst hK (0) rfl dL_law_707 ?_
            obtain ⟨g121, hF⟩ := gd_some hF
            refine aw_lald hK rfl g121 dL_law_708 ?_
            refine aw_iload hK 0 rfl dL_law_709 ?_
            refine aw_i2l hK dL_law_711 ?_
            refine aw_lcmp hK dL_law_712 ?_
            refine aw_if_eq hK 718 rfl dL_law_713 (fun hc => ?_) (fun hc => ?_)
            · have hF := if_t hF hc
              refine aw_wd (n' := n + 7) (by omega) ?_
              refine aw_sub [2, 3, 4, 5, 6] (lv' := [(0, q_v (.ref b)), (1, q_r 0), (2, q_r 70), (3, q_r 108), (4, q_i x4)]) rfl ?_
              exact bk_L_law_718 hK hB hL hR hrec_23 (by omega) hF
            · have hF := if_f hF hc
              refine aw_iconst hK (0) rfl dL_law_716 ?_
              obtain ⟨e1, rfl⟩ := so_inj hF
              exact absurd e1 (by decide)
        · have hF := if_f hF hc
          refine aw_iconst hK (0) rfl dL_law_699 ?_
          obtain ⟨e1, rfl⟩ := so_inj hF
          exact absurd e1 (by decide)
      have hF := if_f hF hc9
      by_cases hc10 : ((xs (ix x4)) &&& (31 : Int32)) = (10 : Int32)
      · have hF := if_t hF hc10
        refine aw_tin hK (10) _ 721 hc10 (by decide) (by decide) rfl rfl dL_law_40 ?_
        refine aw_aload_n hK 1 rfl dL_law_721 ?_
        refine aw_aloadV_n hK 0 rfl dL_law_722 ?_
        refine aw_iload hK 4 rfl dL_law_723 ?_
        refine aw_iconst hK (1) rfl dL_law_725 ?_
        refine aw_iadd hK dL_law_726 ?_
        obtain ⟨g122, hF⟩ := gd_some hF
        refine aw_sld hK hL g122 dL_law_727 ?_
        refine aw_aloadV_n hK 0 rfl dL_law_728 ?_
        refine aw_iload hK 4 rfl dL_law_729 ?_
        refine aw_iconst hK (2) rfl dL_law_731 ?_
        refine aw_iadd hK dL_law_732 ?_
        obtain ⟨g123, hF⟩ := gd_some hF
        refine aw_sld hK hL g123 dL_law_733 ?_
        refine aw_if_eq hK 741 rfl dL_law_734 (fun hc => ?_) (fun hc => ?_)
        · have hF := if_t hF hc
          refine aw_iconst hK (0) rfl dL_law_741 ?_
          refine aw_sub [0, 1, 2, 3, 4] (lv' := [(0, q_v (.ref b)), (1, q_r 0), (2, q_r 70), (3, q_r 108), (4, q_i x4)]) rfl ?_
          exact bk_L_law_742 hK hB hL hR hrec_23 (by omega) hF
        · have hF := if_f hF hc
          refine aw_iconst hK (1) rfl dL_law_737 ?_
          refine aw_goto hK 742 rfl dL_law_738 ?_
          refine aw_sub [0, 1, 2, 3, 4] (lv' := [(0, q_v (.ref b)), (1, q_r 0), (2, q_r 70), (3, q_r 108), (4, q_i x4)]) rfl ?_
          exact bk_L_law_742 hK hB hL hR hrec_23 (by omega) hF
      have hF := if_f hF hc10
      by_cases hc11 : ((xs (ix x4)) &&& (31 : Int32)) = (11 : Int32)
      · have hF := if_t hF hc11
        refine aw_tin hK (11) _ 805 hc11 (by decide) (by decide) rfl rfl dL_law_40 ?_
        refine aw_aload_n hK 1 rfl dL_law_805 ?_
        refine aw_aloadV_n hK 0 rfl dL_law_806 ?_
        refine aw_iload hK 4 rfl dL_law_807 ?_
        refine aw_iconst hK (1) rfl dL_law_809 ?_
        refine aw_iadd hK dL_law_810 ?_
        obtain ⟨g124, hF⟩ := gd_some hF
        refine aw_sld hK hL g124 dL_law_811 ?_
        refine aw_aload_n hK 3 rfl dL_law_812 ?_
        obtain ⟨r127, m126, h125, hF⟩ := cal_some hF
        refine aw_csW hK hB (as := [q_r 0, q_i (xs (ix (x4 + (1 : Int32)))), q_r 108]) (trW_L_least h125) gL_law_L_least rfl (na := 3) (by decide +kernel) rfl ⟨by decide, by decide⟩ (by omega) (Nat.le_of_ble_eq_true rfl) dL_law_813 ?_
        refine aw_istore hK [(5, q_i r127), (0, q_v (.ref b)), (1, q_r 0), (2, q_r 70), (3, q_r 108), (4, q_i x4)] (by decide) rfl dL_law_816 ?_
        refine aw_aload_n hK 3 rfl dL_law_818 ?_
        refine aw_aloadV_n hK 1 rfl dL_law_819 ?_
        refine aw_iload hK 5 rfl dL_law_820 ?_
        refine aw_iconst hK (1) rfl dL_law_822 ?_
        refine aw_iadd hK dL_law_823 ?_
        obtain ⟨g128, hF⟩ := gd_some hF
        refine aw_sld hK hL g128 dL_law_824 ?_
        obtain ⟨r131, m130, h129, hF⟩ := cal_some hF
        refine aw_cv hK 8 (as := [q_i (xs (ix (x4 + (1 : Int32))))]) (tr_X8_least h129) gL_law_X8_least rfl rfl rfl (by decide) (na := 1) (by decide +kernel) rfl ⟨by decide, by decide⟩ (by omega) (Nat.le_of_ble_eq_true rfl) dL_law_825 ?_
        refine aw_istore hK [(6, q_i r131), (5, q_i r127), (0, q_v (.ref b)), (1, q_r 0), (2, q_r 70), (3, q_r 108), (4, q_i x4)] (by decide) rfl dL_law_828 ?_
        refine aw_aload_n hK 4 rfl dL_law_830 ?_
        obtain ⟨r134, m133, h132, hF⟩ := cal_some hF
        refine aw_cv hK 8 (as := []) (tr_X8_thrown h132) gL_law_X8_thrown rfl rfl rfl (by decide) (na := 0) (by decide +kernel) rfl ⟨by decide, by decide⟩ (by omega) (Nat.le_of_ble_eq_true rfl) dL_law_831 ?_
        refine aw_iload hK 1 rfl dL_law_834 ?_
        refine aw_icmp_eq hK 841 rfl dL_law_836 (fun hc => ?_) (fun hc => ?_)
        · have hF := if_t hF hc
          refine aw_iload hK 1 rfl dL_law_841 ?_
          refine aw_if_ne hK 858 rfl dL_law_843 (fun hc => ?_) (fun hc => ?_)
          · have hF := if_f hF hc
            refine aw_wd (n' := n + 7) (by omega) ?_
            refine aw_sub [2, 3, 4, 5, 6] (lv' := [(0, q_v (.ref b)), (1, q_r 0), (2, q_r 70), (3, q_r 108), (4, q_i x4)]) rfl ?_
            exact bk_L_law_858 hK hB hL hR hrec_23 (by omega) hF
          · have hF := if_t hF hc
            refine aw_aload_n hK 5 rfl dL_law_846 ?_
            refine aw_iconst hK (0) rfl dL_law_847 ?_
            obtain ⟨g135, hF⟩ := gd_some hF
            refine aw_lald hK rfl g135 dL_law_848 ?_
            refine aw_iload hK 0 rfl dL_law_849 ?_
            refine aw_i2l hK dL_law_851 ?_
            refine aw_lcmp hK dL_law_852 ?_
            refine aw_if_eq hK 858 rfl dL_law_853 (fun hc => ?_) (fun hc => ?_)
            · have hF := if_t hF hc
              refine aw_wd (n' := n + 7) (by omega) ?_
              refine aw_sub [2, 3, 4, 5, 6] (lv' := [(0, q_v (.ref b)), (1, q_r 0), (2, q_r 70), (3, q_r 108), (4, q_i x4)]) rfl ?_
              exact bk_L_law_858 hK hB hL hR hrec_23 (by omega) hF
            · have hF := if_f hF hc
              refine aw_iconst hK (0) rfl dL_law_856 ?_
              obtain ⟨e1, rfl⟩ := so_inj hF
              exact absurd e1 (by decide)
        · have hF := if_f hF hc
          refine aw_iconst hK (0) rfl dL_law_839 ?_
          obtain ⟨e1, rfl⟩ := so_inj hF
          exact absurd e1 (by decide)
      have hF := if_f hF hc11
      by_cases hc12 : ((xs (ix x4)) &&& (31 : Int32)) = (12 : Int32)
      · have hF := if_t hF hc12
        refine aw_tin hK (12) _ 861 hc12 (by decide) (by decide) rfl rfl dL_law_40 ?_
        refine aw_aload_n hK 1 rfl dL_law_861 ?_
        refine aw_aloadV_n hK 0 rfl dL_law_862 ?_
        refine aw_iload hK 4 rfl dL_law_863 ?_
        refine aw_iconst hK (1) rfl dL_law_865 ?_
        refine aw_iadd hK dL_law_866 ?_
        obtain ⟨g136, hF⟩ := gd_some hF
        refine aw_sld hK hL g136 dL_law_867 ?_
        refine aw_aloadV_n hK 0 rfl dL_law_868 ?_
        refine aw_iload hK 4 rfl dL_law_869 ?_
        refine aw_iconst hK (2) rfl dL_law_871 ?_
        refine aw_iadd hK dL_law_872 ?_
        obtain ⟨g137, hF⟩ := gd_some hF
        refine aw_sld hK hL g137 dL_law_873 ?_
        refine aw_aloadV_n hK 0 rfl dL_law_874 ?_
        refine aw_iload hK 4 rfl dL_law_875 ?_
        refine aw_iconst hK (3) rfl dL_law_877 ?_
        refine aw_iadd hK dL_law_878 ?_
        obtain ⟨g138, hF⟩ := gd_some hF
        refine aw_sld hK hL g138 dL_law_879 ?_
        refine aw_if_eq hK 887 rfl dL_law_880 (fun hc => ?_) (fun hc => ?_)
        · have hF := if_t hF hc
          refine aw_iconst hK (0) rfl dL_law_887 ?_
          refine aw_sub [0, 1, 2, 3, 4] (lv' := [(0, q_v (.ref b)), (1, q_r 0), (2, q_r 70), (3, q_r 108), (4, q_i x4)]) rfl ?_
          exact bk_L_law_888 hK hB hL hR hrec_23 (by omega) hF
        · have hF := if_f hF hc
          refine aw_iconst hK (1) rfl dL_law_883 ?_
          refine aw_goto hK 888 rfl dL_law_884 ?_
          refine aw_sub [0, 1, 2, 3, 4] (lv' := [(0, q_v (.ref b)), (1, q_r 0), (2, q_r 70), (3, q_r 108), (4, q_i x4)]) rfl ?_
          exact bk_L_law_888 hK hB hL hR hrec_23 (by omega) hF
      have hF := if_f hF hc12
      by_cases hc13 : ((xs (ix x4)) &&& (31 : Int32)) = (13 : Int32)
      · have hF := if_t hF hc13
        refine aw_tin hK (13) _ 957 hc13 (by decide) (by decide) rfl rfl dL_law_40 ?_
        refine aw_aload_n hK 1 rfl dL_law_957 ?_
        refine aw_aloadV_n hK 0 rfl dL_law_958 ?_
        refine aw_iload hK 4 rfl dL_law_959 ?_
        refine aw_iconst hK (1) rfl dL_law_961 ?_
        refine aw_iadd hK dL_law_962 ?_
        obtain ⟨g139, hF⟩ := gd_some hF
        refine aw_sld hK hL g139 dL_law_963 ?_
        refine aw_aloadV_n hK 0 rfl dL_law_964 ?_
        refine aw_iload hK 4 rfl dL_law_965 ?_
        refine aw_iconst hK (2) rfl dL_law_967 ?_
        refine aw_iadd hK dL_law_968 ?_
        obtain ⟨g140, hF⟩ := gd_some hF
        refine aw_sld hK hL g140 dL_law_969 ?_
        refine aw_aloadV_n hK 0 rfl dL_law_970 ?_
        refine aw_iload hK 4 rfl dL_law_971 ?_
        refine aw_iconst hK (3) rfl dL_law_973 ?_
        refine aw_iadd hK dL_law_974 ?_
        obtain ⟨g141, hF⟩ := gd_some hF
        refine aw_sld hK hL g141 dL_law_975 ?_
        refine aw_aloadV_n hK 0 rfl dL_law_976 ?_
        refine aw_iload hK 4 rfl dL_law_977 ?_
        refine aw_iconst hK (4) rfl dL_law_979 ?_
        refine aw_iadd hK dL_law_980 ?_
        obtain ⟨g142, hF⟩ := gd_some hF
        refine aw_sld hK hL g142 dL_law_981 ?_
        refine aw_aloadV_n hK 0 rfl dL_law_982 ?_
        refine aw_iload hK 4 rfl dL_law_983 ?_
        refine aw_iconst hK (5) rfl dL_law_985 ?_
        refine aw_iadd hK dL_law_986 ?_
        obtain ⟨g143, hF⟩ := gd_some hF
        refine aw_sld hK hL g143 dL_law_987 ?_
        refine aw_if_eq hK 995 rfl dL_law_988 (fun hc => ?_) (fun hc => ?_)
        · have hF := if_t hF hc
          refine aw_iconst hK (0) rfl dL_law_995 ?_
          refine aw_sub [0, 1, 2, 3, 4] (lv' := [(0, q_v (.ref b)), (1, q_r 0), (2, q_r 70), (3, q_r 108), (4, q_i x4)]) rfl ?_
          exact bk_L_law_996 hK hB hL hR hrec_23 (by omega) hF
        · have hF := if_f hF hc
          refine aw_iconst hK (1) rfl dL_law_991 ?_
          refine aw_goto hK 996 rfl dL_law_992 ?_
          refine aw_sub [0, 1, 2, 3, 4] (lv' := [(0, q_v (.ref b)), (1, q_r 0), (2, q_r 70), (3, q_r 108), (4, q_i x4)]) rfl ?_
          exact bk_L_law_996 hK hB hL hR hrec_23 (by omega) hF
      have hF := if_f hF hc13
      by_cases hc14 : ((xs (ix x4)) &&& (31 : Int32)) = (14 : Int32)
      · have hF := if_t hF hc14
        refine aw_tin hK (14) _ 1077 hc14 (by decide) (by decide) rfl rfl dL_law_40 ?_
        refine aw_aload_n hK 1 rfl dL_law_1077 ?_
        refine aw_aloadV_n hK 0 rfl dL_law_1078 ?_
        refine aw_iload hK 4 rfl dL_law_1079 ?_
        refine aw_iconst hK (1) rfl dL_law_1081 ?_
        refine aw_iadd hK dL_law_1082 ?_
        obtain ⟨g144, hF⟩ := gd_some hF
        refine aw_sld hK hL g144 dL_law_1083 ?_
        refine aw_aload_n hK 3 rfl dL_law_1084 ?_
        obtain ⟨r147, m146, h145, hF⟩ := cal_some hF
        refine aw_csW hK hB (as := [q_r 0, q_i (xs (ix (x4 + (1 : Int32)))), q_r 108]) (trW_L_size h145) gL_law_L_size rfl (na := 3) (by decide +kernel) rfl ⟨by decide, by decide⟩ (by omega) (Nat.le_of_ble_eq_true rfl) dL_law_1085 ?_
        refine aw_istore hK [(5, q_i r147), (0, q_v (.ref b)), (1, q_r 0), (2, q_r 70), (3, q_r 108), (4, q_i x4)] (by decide) rfl dL_law_1088 ?_
        refine aw_aload_n hK 3 rfl dL_law_1090 ?_
        refine aw_aloadV_n hK 1 rfl dL_law_1091 ?_
        refine aw_iload hK 5 rfl dL_law_1092 ?_
        refine aw_iconst hK (1) rfl dL_law_1094 ?_
        refine aw_iadd hK dL_law_1095 ?_
        obtain ⟨g148, hF⟩ := gd_some hF
        refine aw_sld hK hL g148 dL_law_1096 ?_
        obtain ⟨r151, m150, h149, hF⟩ := cal_some hF
        refine aw_cv hK 8 (as := [q_i (xs (ix (x4 + (1 : Int32))))]) (tr_X8_size h149) gL_law_X8_size rfl rfl rfl (by decide) (na := 1) (by decide +kernel) rfl ⟨by decide, by decide⟩ (by omega) (Nat.le_of_ble_eq_true rfl) dL_law_1097 ?_
        refine aw_istore hK [(6, q_i r151), (5, q_i r147), (0, q_v (.ref b)), (1, q_r 0), (2, q_r 70), (3, q_r 108), (4, q_i x4)] (by decide) rfl dL_law_1100 ?_
        refine aw_aload_n hK 4 rfl dL_law_1102 ?_
        obtain ⟨r154, m153, h152, hF⟩ := cal_some hF
        refine aw_cv hK 8 (as := []) (tr_X8_thrown h152) gL_law_X8_thrown rfl rfl rfl (by decide) (na := 0) (by decide +kernel) rfl ⟨by decide, by decide⟩ (by omega) (Nat.le_of_ble_eq_true rfl) dL_law_1103 ?_
        refine aw_iload hK 1 rfl dL_law_1106 ?_
        refine aw_icmp_eq hK 1113 rfl dL_law_1108 (fun hc => ?_) (fun hc => ?_)
        · have hF := if_t hF hc
          refine aw_iload hK 1 rfl dL_law_1113 ?_
          refine aw_if_ne hK 1130 rfl dL_law_1115 (fun hc => ?_) (fun hc => ?_)
          · have hF := if_f hF hc
            refine aw_wd (n' := n + 7) (by omega) ?_
            refine aw_sub [2, 3, 4, 5, 6] (lv' := [(0, q_v (.ref b)), (1, q_r 0), (2, q_r 70), (3, q_r 108), (4, q_i x4)]) rfl ?_
            exact bk_L_law_1130 hK hB hL hR hrec_23 (by omega) hF
          · have hF := if_t hF hc
            refine aw_aload_n hK 5 rfl dL_law_1118 ?_
            refine aw_iconst hK (0) rfl dL_law_1119 ?_
            obtain ⟨g155, hF⟩ := gd_some hF
            refine aw_lald hK rfl g155 dL_law_1120 ?_
            refine aw_iload hK 0 rfl dL_law_1121 ?_
            refine aw_i2l hK dL_law_1123 ?_
            refine aw_lcmp hK dL_law_1124 ?_
            refine aw_if_eq hK 1130 rfl dL_law_1125 (fun hc => ?_) (fun hc => ?_)
            · have hF := if_t hF hc
              refine aw_wd (n' := n + 7) (by omega) ?_
              refine aw_sub [2, 3, 4, 5, 6] (lv' := [(0, q_v (.ref b)), (1, q_r 0), (2, q_r 70), (3, q_r 108), (4, q_i x4)]) rfl ?_
              exact bk_L_law_1130 hK hB hL hR hrec_23 (by omega) hF
            · have hF := if_f hF hc
              refine aw_iconst hK (0) rfl dL_law_1128 ?_
              obtain ⟨e1, rfl⟩ := so_inj hF
              exact absurd e1 (by decide)
        · have hF := if_f hF hc
          refine aw_iconst hK (0) rfl dL_law_1111 ?_
          obtain ⟨e1, rfl⟩ := so_inj hF
          exact absurd e1 (by decide)
      have hF := if_f hF hc14
      by_cases hc15 : ((xs (ix x4)) &&& (31 : Int32)) = (15 : Int32)
      · have hF := if_t hF hc15
        refine aw_tin hK (15) _ 1133 hc15 (by decide) (by decide) rfl rfl dL_law_40 ?_
        refine aw_aload_n hK 1 rfl dL_law_1133 ?_
        refine aw_aloadV_n hK 0 rfl dL_law_1134 ?_
        refine aw_iload hK 4 rfl dL_law_1135 ?_
        refine aw_iconst hK (1) rfl dL_law_1137 ?_
        refine aw_iadd hK dL_law_1138 ?_
        obtain ⟨g156, hF⟩ := gd_some hF
        refine aw_sld hK hL g156 dL_law_1139 ?_
        refine aw_aloadV_n hK 0 rfl dL_law_1140 ?_
        refine aw_iload hK 4 rfl dL_law_1141 ?_
        refine aw_iconst hK (2) rfl dL_law_1143 ?_
        refine aw_iadd hK dL_law_1144 ?_
        obtain ⟨g157, hF⟩ := gd_some hF
        refine aw_sld hK hL g157 dL_law_1145 ?_
        refine aw_aload_n hK 3 rfl dL_law_1146 ?_
        obtain ⟨r160, m159, h158, hF⟩ := cal_some hF
        refine aw_csW hK hB (as := [q_r 0, q_i (xs (ix (x4 + (1 : Int32)))), q_i (xs (ix (x4 + (2 : Int32)))), q_r 108]) (trW_L_isEnd h158) gL_law_L_isEnd rfl (na := 4) (by decide +kernel) rfl ⟨by decide, by decide⟩ (by omega) (Nat.le_of_ble_eq_true rfl) dL_law_1147 ?_
        refine aw_istore hK [(5, q_i r160), (0, q_v (.ref b)), (1, q_r 0), (2, q_r 70), (3, q_r 108), (4, q_i x4)] (by decide) rfl dL_law_1150 ?_
        refine aw_aload_n hK 3 rfl dL_law_1152 ?_
        refine aw_aloadV_n hK 1 rfl dL_law_1153 ?_
        refine aw_iload hK 5 rfl dL_law_1154 ?_
        refine aw_iconst hK (1) rfl dL_law_1156 ?_
        refine aw_iadd hK dL_law_1157 ?_
        obtain ⟨g161, hF⟩ := gd_some hF
        refine aw_sld hK hL g161 dL_law_1158 ?_
        refine aw_aloadV_n hK 1 rfl dL_law_1159 ?_
        refine aw_iload hK 5 rfl dL_law_1160 ?_
        refine aw_iconst hK (2) rfl dL_law_1162 ?_
        refine aw_iadd hK dL_law_1163 ?_
        obtain ⟨g162, hF⟩ := gd_some hF
        refine aw_sld hK hL g162 dL_law_1164 ?_
        obtain ⟨r165, m164, h163, hF⟩ := cal_some hF
        refine aw_cv hK 8 (as := [q_i (xs (ix (x4 + (1 : Int32)))), q_i (xs (ix (x4 + (2 : Int32))))]) (tr_X8_isEnd h163) gL_law_X8_isEnd rfl rfl rfl (by decide) (na := 2) (by decide +kernel) rfl ⟨by decide, by decide⟩ (by omega) (Nat.le_of_ble_eq_true rfl) dL_law_1165 ?_
        refine aw_istore hK [(6, q_i r165), (5, q_i r160), (0, q_v (.ref b)), (1, q_r 0), (2, q_r 70), (3, q_r 108), (4, q_i x4)] (by decide) rfl dL_law_1168 ?_
        refine aw_aload_n hK 4 rfl dL_law_1170 ?_
        obtain ⟨r168, m167, h166, hF⟩ := cal_some hF
        refine aw_cv hK 8 (as := []) (tr_X8_thrown h166) gL_law_X8_thrown rfl rfl rfl (by decide) (na := 0) (by decide +kernel) rfl ⟨by decide, by decide⟩ (by omega) (Nat.le_of_ble_eq_true rfl) dL_law_1171 ?_
        refine aw_iload hK 1 rfl dL_law_1174 ?_
        refine aw_icmp_eq hK 1181 rfl dL_law_1176 (fun hc => ?_) (fun hc => ?_)
        · have hF := if_t hF hc
          refine aw_iload hK 1 rfl dL_law_1181 ?_
          refine aw_if_ne hK 1205 rfl dL_law_1183 (fun hc => ?_) (fun hc => ?_)
          · have hF := if_f hF hc
            refine aw_wd (n' := n + 7) (by omega) ?_
            refine aw_sub [2, 3, 4, 5, 6] (lv' := [(0, q_v (.ref b)), (1, q_r 0), (2, q_r 70), (3, q_r 108), (4, q_i x4)]) rfl ?_
            exact bk_L_law_1205 hK hB hL hR hrec_23 (by omega) hF
          · have hF := if_t hF hc
            refine aw_aload_n hK 5 rfl dL_law_1186 ?_
            refine aw_iconst hK (0) rfl dL_law_1187 ?_
            obtain ⟨g169, hF⟩ := gd_some hF
            refine aw_lald hK rfl g169 dL_law_1188 ?_
            refine aw_iload hK 0 rfl dL_law_1189 ?_
            refine aw_if_eq hK 1198 rfl dL_law_1191 (fun hc => ?_) (fun hc => ?_)
            · have hF := if_t hF hc
              refine aw_lconst hK (0) rfl dL_law_1198 ?_
              refine aw_wd (n' := n + 7) (by omega) ?_
              refine aw_sub [2, 3, 4, 5, 6] (lv' := [(0, q_v (.ref b)), (1, q_r 0), (2, q_r 70), (3, q_r 108), (4, q_i x4)]) rfl ?_
              exact bk_L_law_1199 hK hB hL hR hrec_23 (by omega) hF
            · have hF := if_f hF hc
              refine aw_lconst hK (1) rfl dL_law_1194 ?_
              refine aw_goto hK 1199 rfl dL_law_1195 ?_
              refine aw_wd (n' := n + 7) (by omega) ?_
              refine aw_sub [2, 3, 4, 5, 6] (lv' := [(0, q_v (.ref b)), (1, q_r 0), (2, q_r 70), (3, q_r 108), (4, q_i x4)]) rfl ?_
              exact bk_L_law_1199 hK hB hL hR hrec_23 (by omega) hF
        · have hF := if_f hF hc
          refine aw_iconst hK (0) rfl dL_law_1179 ?_
          obtain ⟨e1, rfl⟩ := so_inj hF
          exact absurd e1 (by decide)
      have hF := if_f hF hc15
      by_cases hc16 : ((xs (ix x4)) &&& (31 : Int32)) = (16 : Int32)
      · have hF := if_t hF hc16
        refine aw_tin hK (16) _ 1208 hc16 (by decide) (by decide) rfl rfl dL_law_40 ?_
        refine aw_aload_n hK 1 rfl dL_law_1208 ?_
        refine aw_aloadV_n hK 0 rfl dL_law_1209 ?_
        refine aw_iload hK 4 rfl dL_law_1210 ?_
        refine aw_iconst hK (1) rfl dL_law_1212 ?_
        refine aw_iadd hK dL_law_1213 ?_
        obtain ⟨g170, hF⟩ := gd_some hF
        refine aw_sld hK hL g170 dL_law_1214 ?_
        refine aw_aloadV_n hK 0 rfl dL_law_1215 ?_
        refine aw_iload hK 4 rfl dL_law_1216 ?_
        refine aw_iconst hK (2) rfl dL_law_1218 ?_
        refine aw_iadd hK dL_law_1219 ?_
        obtain ⟨g171, hF⟩ := gd_some hF
        refine aw_sld hK hL g171 dL_law_1220 ?_
        refine aw_aloadV_n hK 0 rfl dL_law_1221 ?_
        refine aw_iload hK 4 rfl dL_law_1222 ?_
        refine aw_iconst hK (3) rfl dL_law_1224 ?_
        refine aw_iadd hK dL_law_1225 ?_
        obtain ⟨g172, hF⟩ := gd_some hF
        refine aw_sld hK hL g172 dL_law_1226 ?_
        refine aw_aload_n hK 3 rfl dL_law_1227 ?_
        obtain ⟨r175, m174, h173, hF⟩ := cal_some hF
        refine aw_csW hK hB (as := [q_r 0, q_i (xs (ix (x4 + (1 : Int32)))), q_i (xs (ix (x4 + (2 : Int32)))), q_i (xs (ix (x4 + (3 : Int32)))), q_r 108]) (trW_L_arc h173) gL_law_L_arc rfl (na := 5) (by decide +kernel) rfl ⟨by decide, by decide⟩ (by omega) (Nat.le_of_ble_eq_true rfl) dL_law_1228 ?_
        refine aw_istore hK [(5, q_i r175), (0, q_v (.ref b)), (1, q_r 0), (2, q_r 70), (3, q_r 108), (4, q_i x4)] (by decide) rfl dL_law_1231 ?_
        refine aw_aload_n hK 3 rfl dL_law_1233 ?_
        refine aw_aloadV_n hK 1 rfl dL_law_1234 ?_
        refine aw_iload hK 5 rfl dL_law_1235 ?_
        refine aw_iconst hK (1) rfl dL_law_1237 ?_
        refine aw_iadd hK dL_law_1238 ?_
        obtain ⟨g176, hF⟩ := gd_some hF
        refine aw_sld hK hL g176 dL_law_1239 ?_
        refine aw_aloadV_n hK 1 rfl dL_law_1240 ?_
        refine aw_iload hK 5 rfl dL_law_1241 ?_
        refine aw_iconst hK (2) rfl dL_law_1243 ?_
        refine aw_iadd hK dL_law_1244 ?_
        obtain ⟨g177, hF⟩ := gd_some hF
        refine aw_sld hK hL g177 dL_law_1245 ?_
        refine aw_aloadV_n hK 1 rfl dL_law_1246 ?_
        refine aw_iload hK 5 rfl dL_law_1247 ?_
        refine aw_iconst hK (3) rfl dL_law_1249 ?_
        refine aw_iadd hK dL_law_1250 ?_
        obtain ⟨g178, hF⟩ := gd_some hF
        refine aw_sld hK hL g178 dL_law_1251 ?_
        obtain ⟨r181, m180, h179, hF⟩ := cal_some hF
        refine aw_cv hK 8 (as := [q_i (xs (ix (x4 + (1 : Int32)))), q_i (xs (ix (x4 + (2 : Int32)))), q_i (xs (ix (x4 + (3 : Int32))))]) (tr_X8_arc h179) gL_law_X8_arc rfl rfl rfl (by decide) (na := 3) (by decide +kernel) rfl ⟨by decide, by decide⟩ (by omega) (Nat.le_of_ble_eq_true rfl) dL_law_1252 ?_
        refine aw_istore hK [(6, q_i r181), (5, q_i r175), (0, q_v (.ref b)), (1, q_r 0), (2, q_r 70), (3, q_r 108), (4, q_i x4)] (by decide) rfl dL_law_1255 ?_
        refine aw_aload_n hK 4 rfl dL_law_1257 ?_
        obtain ⟨r184, m183, h182, hF⟩ := cal_some hF
        refine aw_cv hK 8 (as := []) (tr_X8_thrown h182) gL_law_X8_thrown rfl rfl rfl (by decide) (na := 0) (by decide +kernel) rfl ⟨by decide, by decide⟩ (by omega) (Nat.le_of_ble_eq_true rfl) dL_law_1258 ?_
        refine aw_iload hK 1 rfl dL_law_1261 ?_
        refine aw_icmp_eq hK 1268 rfl dL_law_1263 (fun hc => ?_) (fun hc => ?_)
        · have hF := if_t hF hc
          refine aw_iload hK 1 rfl dL_law_1268 ?_
          refine aw_if_ne hK 1285 rfl dL_law_1270 (fun hc => ?_) (fun hc => ?_)
          · have hF := if_f hF hc
            refine aw_wd (n' := n + 7) (by omega) ?_
            refine aw_sub [2, 3, 4, 5, 6] (lv' := [(0, q_v (.ref b)), (1, q_r 0), (2, q_r 70), (3, q_r 108), (4, q_i x4)]) rfl ?_
            exact bk_L_law_1285 hK hB hL hR hrec_23 (by omega) hF
          · have hF := if_t hF hc
            refine aw_aload_n hK 5 rfl dL_law_1273 ?_
            refine aw_iconst hK (0) rfl dL_law_1274 ?_
            obtain ⟨g185, hF⟩ := gd_some hF
            refine aw_lald hK rfl g185 dL_law_1275 ?_
            refine aw_iload hK 0 rfl dL_law_1276 ?_
            refine aw_i2l hK dL_law_1278 ?_
            refine aw_lcmp hK dL_law_1279 ?_
            refine aw_if_eq hK 1285 rfl dL_law_1280 (fun hc => ?_) (fun hc => ?_)
            · have hF := if_t hF hc
              refine aw_wd (n' := n + 7) (by omega) ?_
              refine aw_sub [2, 3, 4, 5, 6] (lv' := [(0, q_v (.ref b)), (1, q_r 0), (2, q_r 70), (3, q_r 108), (4, q_i x4)]) rfl ?_
              exact bk_L_law_1285 hK hB hL hR hrec_23 (by omega) hF
            · have hF := if_f hF hc
              refine aw_iconst hK (0) rfl dL_law_1283 ?_
              obtain ⟨e1, rfl⟩ := so_inj hF
              exact absurd e1 (by decide)
        · have hF := if_f hF hc
          refine aw_iconst hK (0) rfl dL_law_1266 ?_
          obtain ⟨e1, rfl⟩ := so_inj hF
          exact absurd e1 (by decide)
      have hF := if_f hF hc16
      by_cases hc17 : ((xs (ix x4)) &&& (31 : Int32)) = (17 : Int32)
      · have hF := if_t hF hc17
        refine aw_tin hK (17) _ 1288 hc17 (by decide) (by decide) rfl rfl dL_law_40 ?_
        refine aw_aload_n hK 1 rfl dL_law_1288 ?_
        refine aw_aloadV_n hK 0 rfl dL_law_1289 ?_
        refine aw_iload hK 4 rfl dL_law_1290 ?_
        refine aw_iconst hK (1) rfl dL_law_1292 ?_
        refine aw_iadd hK dL_law_1293 ?_
        obtain ⟨g186, hF⟩ := gd_some hF
        refine aw_sld hK hL g186 dL_law_1294 ?_
        refine aw_aload_n hK 3 rfl dL_law_1295 ?_
        obtain ⟨r189, m188, h187, hF⟩ := cal_some hF
        refine aw_csW hK hB (as := [q_r 0, q_i (xs (ix (x4 + (1 : Int32)))), q_r 108]) (trW_L_isPlain h187) gL_law_L_isPlain rfl (na := 3) (by decide +kernel) rfl ⟨by decide, by decide⟩ (by omega) (Nat.le_of_ble_eq_true rfl) dL_law_1296 ?_
        refine aw_istore hK [(5, q_i r189), (0, q_v (.ref b)), (1, q_r 0), (2, q_r 70), (3, q_r 108), (4, q_i x4)] (by decide) rfl dL_law_1299 ?_
        refine aw_aload_n hK 3 rfl dL_law_1301 ?_
        refine aw_aloadV_n hK 1 rfl dL_law_1302 ?_
        refine aw_iload hK 5 rfl dL_law_1303 ?_
        refine aw_iconst hK (1) rfl dL_law_1305 ?_
        refine aw_iadd hK dL_law_1306 ?_
        obtain ⟨g190, hF⟩ := gd_some hF
        refine aw_sld hK hL g190 dL_law_1307 ?_
        obtain ⟨r193, m192, h191, hF⟩ := cal_some hF
        refine aw_cv hK 8 (as := [q_i (xs (ix (x4 + (1 : Int32))))]) (tr_X8_isPlain h191) gL_law_X8_isPlain rfl rfl rfl (by decide) (na := 1) (by decide +kernel) rfl ⟨by decide, by decide⟩ (by omega) (Nat.le_of_ble_eq_true rfl) dL_law_1308 ?_
        refine aw_istore hK [(6, q_i r193), (5, q_i r189), (0, q_v (.ref b)), (1, q_r 0), (2, q_r 70), (3, q_r 108), (4, q_i x4)] (by decide) rfl dL_law_1311 ?_
        refine aw_aload_n hK 4 rfl dL_law_1313 ?_
        obtain ⟨r196, m195, h194, hF⟩ := cal_some hF
        refine aw_cv hK 8 (as := []) (tr_X8_thrown h194) gL_law_X8_thrown rfl rfl rfl (by decide) (na := 0) (by decide +kernel) rfl ⟨by decide, by decide⟩ (by omega) (Nat.le_of_ble_eq_true rfl) dL_law_1314 ?_
        refine aw_iload hK 1 rfl dL_law_1317 ?_
        refine aw_icmp_eq hK 1324 rfl dL_law_1319 (fun hc => ?_) (fun hc => ?_)
        · have hF := if_t hF hc
          refine aw_iload hK 1 rfl dL_law_1324 ?_
          refine aw_if_ne hK 1348 rfl dL_law_1326 (fun hc => ?_) (fun hc => ?_)
          · have hF := if_f hF hc
            refine aw_wd (n' := n + 7) (by omega) ?_
            refine aw_sub [2, 3, 4, 5, 6] (lv' := [(0, q_v (.ref b)), (1, q_r 0), (2, q_r 70), (3, q_r 108), (4, q_i x4)]) rfl ?_
            exact bk_L_law_1348 hK hB hL hR hrec_23 (by omega) hF
          · have hF := if_t hF hc
            refine aw_aload_n hK 5 rfl dL_law_1329 ?_
            refine aw_iconst hK (0) rfl dL_law_1330 ?_
            obtain ⟨g197, hF⟩ := gd_some hF
            refine aw_lald hK rfl g197 dL_law_1331 ?_
            refine aw_iload hK 0 rfl dL_law_1332 ?_
            refine aw_if_eq hK 1341 rfl dL_law_1334 (fun hc => ?_) (fun hc => ?_)
            · have hF := if_t hF hc
              refine aw_lconst hK (0) rfl dL_law_1341 ?_
              refine aw_wd (n' := n + 7) (by omega) ?_
              refine aw_sub [2, 3, 4, 5, 6] (lv' := [(0, q_v (.ref b)), (1, q_r 0), (2, q_r 70), (3, q_r 108), (4, q_i x4)]) rfl ?_
              exact bk_L_law_1342 hK hB hL hR hrec_23 (by omega) hF
            · have hF := if_f hF hc
              refine aw_lconst hK (1) rfl dL_law_1337 ?_
              refine aw_goto hK 1342 rfl dL_law_1338 ?_
              refine aw_wd (n' := n + 7) (by omega) ?_
              refine aw_sub [2, 3, 4, 5, 6] (lv' := [(0, q_v (.ref b)), (1, q_r 0), (2, q_r 70), (3, q_r 108), (4, q_i x4)]) rfl ?_
              exact bk_L_law_1342 hK hB hL hR hrec_23 (by omega) hF
        · have hF := if_f hF hc
          refine aw_iconst hK (0) rfl dL_law_1322 ?_
          obtain ⟨e1, rfl⟩ := so_inj hF
          exact absurd e1 (by decide)
      have hF := if_f hF hc17
      by_cases hc18 : ((xs (ix x4)) &&& (31 : Int32)) = (18 : Int32)
      · have hF := if_t hF hc18
        refine aw_tin hK (18) _ 1351 hc18 (by decide) (by decide) rfl rfl dL_law_40 ?_
        refine aw_aload_n hK 1 rfl dL_law_1351 ?_
        refine aw_aloadV_n hK 0 rfl dL_law_1352 ?_
        refine aw_iload hK 4 rfl dL_law_1353 ?_
        refine aw_iconst hK (1) rfl dL_law_1355 ?_
        refine aw_iadd hK dL_law_1356 ?_
        obtain ⟨g198, hF⟩ := gd_some hF
        refine aw_sld hK hL g198 dL_law_1357 ?_
        refine aw_aloadV_n hK 0 rfl dL_law_1358 ?_
        refine aw_iload hK 4 rfl dL_law_1359 ?_
        refine aw_iconst hK (2) rfl dL_law_1361 ?_
        refine aw_iadd hK dL_law_1362 ?_
        obtain ⟨g199, hF⟩ := gd_some hF
        refine aw_sld hK hL g199 dL_law_1363 ?_
        refine aw_if_eq hK 1371 rfl dL_law_1364 (fun hc => ?_) (fun hc => ?_)
        · have hF := if_t hF hc
          refine aw_iconst hK (0) rfl dL_law_1371 ?_
          refine aw_sub [0, 1, 2, 3, 4] (lv' := [(0, q_v (.ref b)), (1, q_r 0), (2, q_r 70), (3, q_r 108), (4, q_i x4)]) rfl ?_
          exact bk_L_law_1372 hK hB hL hR hrec_23 (by omega) hF
        · have hF := if_f hF hc
          refine aw_iconst hK (1) rfl dL_law_1367 ?_
          refine aw_goto hK 1372 rfl dL_law_1368 ?_
          refine aw_sub [0, 1, 2, 3, 4] (lv' := [(0, q_v (.ref b)), (1, q_r 0), (2, q_r 70), (3, q_r 108), (4, q_i x4)]) rfl ?_
          exact bk_L_law_1372 hK hB hL hR hrec_23 (by omega) hF
      have hF := if_f hF hc18
      by_cases hc19 : ((xs (ix x4)) &&& (31 : Int32)) = (19 : Int32)
      · have hF := if_t hF hc19
        refine aw_tin hK (19) _ 1459 hc19 (by decide) (by decide) rfl rfl dL_law_40 ?_
        refine aw_aload_n hK 1 rfl dL_law_1459 ?_
        refine aw_aloadV_n hK 0 rfl dL_law_1460 ?_
        refine aw_iload hK 4 rfl dL_law_1461 ?_
        refine aw_iconst hK (1) rfl dL_law_1463 ?_
        refine aw_iadd hK dL_law_1464 ?_
        obtain ⟨g200, hF⟩ := gd_some hF
        refine aw_sld hK hL g200 dL_law_1465 ?_
        refine aw_aloadV_n hK 0 rfl dL_law_1466 ?_
        refine aw_iload hK 4 rfl dL_law_1467 ?_
        refine aw_iconst hK (2) rfl dL_law_1469 ?_
        refine aw_iadd hK dL_law_1470 ?_
        obtain ⟨g201, hF⟩ := gd_some hF
        refine aw_sld hK hL g201 dL_law_1471 ?_
        refine aw_if_eq hK 1479 rfl dL_law_1472 (fun hc => ?_) (fun hc => ?_)
        · have hF := if_t hF hc
          refine aw_iconst hK (0) rfl dL_law_1479 ?_
          refine aw_sub [0, 1, 2, 3, 4] (lv' := [(0, q_v (.ref b)), (1, q_r 0), (2, q_r 70), (3, q_r 108), (4, q_i x4)]) rfl ?_
          exact bk_L_law_1480 hK hB hL hR hrec_23 (by omega) hF
        · have hF := if_f hF hc
          refine aw_iconst hK (1) rfl dL_law_1475 ?_
          refine aw_goto hK 1480 rfl dL_law_1476 ?_
          refine aw_sub [0, 1, 2, 3, 4] (lv' := [(0, q_v (.ref b)), (1, q_r 0), (2, q_r 70), (3, q_r 108), (4, q_i x4)]) rfl ?_
          exact bk_L_law_1480 hK hB hL hR hrec_23 (by omega) hF
      have hF := if_f hF hc19
      by_cases hc20 : ((xs (ix x4)) &&& (31 : Int32)) = (20 : Int32)
      · have hF := if_t hF hc20
        refine aw_tin hK (20) _ 1543 hc20 (by decide) (by decide) rfl rfl dL_law_40 ?_
        refine aw_aload_n hK 1 rfl dL_law_1543 ?_
        refine aw_aloadV_n hK 0 rfl dL_law_1544 ?_
        refine aw_iload hK 4 rfl dL_law_1545 ?_
        refine aw_iconst hK (1) rfl dL_law_1547 ?_
        refine aw_iadd hK dL_law_1548 ?_
        obtain ⟨g202, hF⟩ := gd_some hF
        refine aw_sld hK hL g202 dL_law_1549 ?_
        refine aw_aloadV_n hK 0 rfl dL_law_1550 ?_
        refine aw_iload hK 4 rfl dL_law_1551 ?_
        refine aw_iconst hK (2) rfl dL_law_1553 ?_
        refine aw_iadd hK dL_law_1554 ?_
        obtain ⟨g203, hF⟩ := gd_some hF
        refine aw_sld hK hL g203 dL_law_1555 ?_
        refine aw_if_eq hK 1563 rfl dL_law_1556 (fun hc => ?_) (fun hc => ?_)
        · have hF := if_t hF hc
          refine aw_iconst hK (0) rfl dL_law_1563 ?_
          refine aw_sub [0, 1, 2, 3, 4] (lv' := [(0, q_v (.ref b)), (1, q_r 0), (2, q_r 70), (3, q_r 108), (4, q_i x4)]) rfl ?_
          exact bk_L_law_1564 hK hB hL hR hrec_23 (by omega) hF
        · have hF := if_f hF hc
          refine aw_iconst hK (1) rfl dL_law_1559 ?_
          refine aw_goto hK 1564 rfl dL_law_1560 ?_
          refine aw_sub [0, 1, 2, 3, 4] (lv' := [(0, q_v (.ref b)), (1, q_r 0), (2, q_r 70), (3, q_r 108), (4, q_i x4)]) rfl ?_
          exact bk_L_law_1564 hK hB hL hR hrec_23 (by omega) hF
      have hF := if_f hF hc20
      by_cases hc21 : ((xs (ix x4)) &&& (31 : Int32)) = (21 : Int32)
      · have hF := if_t hF hc21
        refine aw_tin hK (21) _ 1627 hc21 (by decide) (by decide) rfl rfl dL_law_40 ?_
        refine aw_aload_n hK 1 rfl dL_law_1627 ?_
        refine aw_aloadV_n hK 0 rfl dL_law_1628 ?_
        refine aw_iload hK 4 rfl dL_law_1629 ?_
        refine aw_iconst hK (1) rfl dL_law_1631 ?_
        refine aw_iadd hK dL_law_1632 ?_
        obtain ⟨g204, hF⟩ := gd_some hF
        refine aw_sld hK hL g204 dL_law_1633 ?_
        refine aw_aloadV_n hK 0 rfl dL_law_1634 ?_
        refine aw_iload hK 4 rfl dL_law_1635 ?_
        refine aw_iconst hK (2) rfl dL_law_1637 ?_
        refine aw_iadd hK dL_law_1638 ?_
        obtain ⟨g205, hF⟩ := gd_some hF
        refine aw_sld hK hL g205 dL_law_1639 ?_
        refine aw_if_eq hK 1647 rfl dL_law_1640 (fun hc => ?_) (fun hc => ?_)
        · have hF := if_t hF hc
          refine aw_iconst hK (0) rfl dL_law_1647 ?_
          refine aw_sub [0, 1, 2, 3, 4] (lv' := [(0, q_v (.ref b)), (1, q_r 0), (2, q_r 70), (3, q_r 108), (4, q_i x4)]) rfl ?_
          exact bk_L_law_1648 hK hB hL hR hrec_23 (by omega) hF
        · have hF := if_f hF hc
          refine aw_iconst hK (1) rfl dL_law_1643 ?_
          refine aw_goto hK 1648 rfl dL_law_1644 ?_
          refine aw_sub [0, 1, 2, 3, 4] (lv' := [(0, q_v (.ref b)), (1, q_r 0), (2, q_r 70), (3, q_r 108), (4, q_i x4)]) rfl ?_
          exact bk_L_law_1648 hK hB hL hR hrec_23 (by omega) hF
      have hF := if_f hF hc21
      by_cases hc22 : ((xs (ix x4)) &&& (31 : Int32)) = (22 : Int32)
      · have hF := if_t hF hc22
        refine aw_tin hK (22) _ 1723 hc22 (by decide) (by decide) rfl rfl dL_law_40 ?_
        refine aw_aload_n hK 1 rfl dL_law_1723 ?_
        refine aw_aloadV_n hK 0 rfl dL_law_1724 ?_
        refine aw_iload hK 4 rfl dL_law_1725 ?_
        refine aw_iconst hK (1) rfl dL_law_1727 ?_
        refine aw_iadd hK dL_law_1728 ?_
        obtain ⟨g206, hF⟩ := gd_some hF
        refine aw_sld hK hL g206 dL_law_1729 ?_
        refine aw_aload_n hK 3 rfl dL_law_1730 ?_
        obtain ⟨r209, m208, h207, hF⟩ := cal_some hF
        refine aw_csW hK hB (as := [q_r 0, q_i (xs (ix (x4 + (1 : Int32)))), q_r 108]) (trW_L_changes h207) gL_law_L_changes rfl (na := 3) (by decide +kernel) rfl ⟨by decide, by decide⟩ (by omega) (Nat.le_of_ble_eq_true rfl) dL_law_1731 ?_
        refine aw_istore hK [(5, q_i r209), (0, q_v (.ref b)), (1, q_r 0), (2, q_r 70), (3, q_r 108), (4, q_i x4)] (by decide) rfl dL_law_1734 ?_
        refine aw_aload_n hK 3 rfl dL_law_1736 ?_
        refine aw_aloadV_n hK 1 rfl dL_law_1737 ?_
        refine aw_iload hK 5 rfl dL_law_1738 ?_
        refine aw_iconst hK (1) rfl dL_law_1740 ?_
        refine aw_iadd hK dL_law_1741 ?_
        obtain ⟨g210, hF⟩ := gd_some hF
        refine aw_sld hK hL g210 dL_law_1742 ?_
        obtain ⟨r213, m212, h211, hF⟩ := cal_some hF
        refine aw_cv hK 8 (as := [q_i (xs (ix (x4 + (1 : Int32))))]) (tr_X8_changes h211) gL_law_X8_changes rfl rfl rfl (by decide) (na := 1) (by decide +kernel) rfl ⟨by decide, by decide⟩ (by omega) (Nat.le_of_ble_eq_true rfl) dL_law_1743 ?_
        refine aw_istore hK [(6, q_i r213), (5, q_i r209), (0, q_v (.ref b)), (1, q_r 0), (2, q_r 70), (3, q_r 108), (4, q_i x4)] (by decide) rfl dL_law_1746 ?_
        refine aw_aload_n hK 4 rfl dL_law_1748 ?_
        obtain ⟨r216, m215, h214, hF⟩ := cal_some hF
        refine aw_cv hK 8 (as := []) (tr_X8_thrown h214) gL_law_X8_thrown rfl rfl rfl (by decide) (na := 0) (by decide +kernel) rfl ⟨by decide, by decide⟩ (by omega) (Nat.le_of_ble_eq_true rfl) dL_law_1749 ?_
        refine aw_iload hK 1 rfl dL_law_1752 ?_
        refine aw_icmp_eq hK 1759 rfl dL_law_1754 (fun hc => ?_) (fun hc => ?_)
        · have hF := if_t hF hc
          refine aw_iload hK 1 rfl dL_law_1759 ?_
          refine aw_if_ne hK 1776 rfl dL_law_1761 (fun hc => ?_) (fun hc => ?_)
          · have hF := if_f hF hc
            refine aw_wd (n' := n + 7) (by omega) ?_
            refine aw_sub [2, 3, 4, 5, 6] (lv' := [(0, q_v (.ref b)), (1, q_r 0), (2, q_r 70), (3, q_r 108), (4, q_i x4)]) rfl ?_
            exact bk_L_law_1776 hK hB hL hR hrec_23 (by omega) hF
          · have hF := if_t hF hc
            refine aw_aload_n hK 5 rfl dL_law_1764 ?_
            refine aw_iconst hK (0) rfl dL_law_1765 ?_
            obtain ⟨g217, hF⟩ := gd_some hF
            refine aw_lald hK rfl g217 dL_law_1766 ?_
            refine aw_iload hK 0 rfl dL_law_1767 ?_
            refine aw_i2l hK dL_law_1769 ?_
            refine aw_lcmp hK dL_law_1770 ?_
            refine aw_if_eq hK 1776 rfl dL_law_1771 (fun hc => ?_) (fun hc => ?_)
            · have hF := if_t hF hc
              refine aw_wd (n' := n + 7) (by omega) ?_
              refine aw_sub [2, 3, 4, 5, 6] (lv' := [(0, q_v (.ref b)), (1, q_r 0), (2, q_r 70), (3, q_r 108), (4, q_i x4)]) rfl ?_
              exact bk_L_law_1776 hK hB hL hR hrec_23 (by omega) hF
            · have hF := if_f hF hc
              refine aw_iconst hK (0) rfl dL_law_1774 ?_
              obtain ⟨e1, rfl⟩ := so_inj hF
              exact absurd e1 (by decide)
        · have hF := if_f hF hc
          refine aw_iconst hK (0) rfl dL_law_1757 ?_
          obtain ⟨e1, rfl⟩ := so_inj hF
          exact absurd e1 (by decide)
      have hF := if_f hF hc22
      by_cases hc23 : ((xs (ix x4)) &&& (31 : Int32)) = (23 : Int32)
      · have hF := if_t hF hc23
        refine aw_tin hK (23) _ 1779 hc23 (by decide) (by decide) rfl rfl dL_law_40 ?_
        refine aw_aload_n hK 1 rfl dL_law_1779 ?_
        refine aw_aloadV_n hK 0 rfl dL_law_1780 ?_
        refine aw_iload hK 4 rfl dL_law_1781 ?_
        refine aw_iconst hK (1) rfl dL_law_1783 ?_
        refine aw_iadd hK dL_law_1784 ?_
        obtain ⟨g218, hF⟩ := gd_some hF
        refine aw_sld hK hL g218 dL_law_1785 ?_
        refine aw_aloadV_n hK 0 rfl dL_law_1786 ?_
        refine aw_iload hK 4 rfl dL_law_1787 ?_
        refine aw_iconst hK (2) rfl dL_law_1789 ?_
        refine aw_iadd hK dL_law_1790 ?_
        obtain ⟨g219, hF⟩ := gd_some hF
        refine aw_sld hK hL g219 dL_law_1791 ?_
        refine aw_aload_n hK 3 rfl dL_law_1792 ?_
        obtain ⟨r222, m221, h220, hF⟩ := cal_some hF
        refine aw_csW hK hB (as := [q_r 0, q_i (xs (ix (x4 + (1 : Int32)))), q_i (xs (ix (x4 + (2 : Int32)))), q_r 108]) (trW_L_mended h220) gL_law_L_mended rfl (na := 4) (by decide +kernel) rfl ⟨by decide, by decide⟩ (by omega) (Nat.le_of_ble_eq_true rfl) dL_law_1793 ?_
        refine aw_istore hK [(5, q_i r222), (0, q_v (.ref b)), (1, q_r 0), (2, q_r 70), (3, q_r 108), (4, q_i x4)] (by decide) rfl dL_law_1796 ?_
        refine aw_aload_n hK 3 rfl dL_law_1798 ?_
        refine aw_aloadV_n hK 1 rfl dL_law_1799 ?_
        refine aw_iload hK 5 rfl dL_law_1800 ?_
        refine aw_iconst hK (1) rfl dL_law_1802 ?_
        refine aw_iadd hK dL_law_1803 ?_
        obtain ⟨g223, hF⟩ := gd_some hF
        refine aw_sld hK hL g223 dL_law_1804 ?_
        refine aw_aloadV_n hK 1 rfl dL_law_1805 ?_
        refine aw_iload hK 5 rfl dL_law_1806 ?_
        refine aw_iconst hK (2) rfl dL_law_1808 ?_
        refine aw_iadd hK dL_law_1809 ?_
        obtain ⟨g224, hF⟩ := gd_some hF
        refine aw_sld hK hL g224 dL_law_1810 ?_
        obtain ⟨r227, m226, h225, hF⟩ := cal_some hF
        refine aw_cv hK 8 (as := [q_i (xs (ix (x4 + (1 : Int32)))), q_i (xs (ix (x4 + (2 : Int32))))]) (tr_X8_mended h225) gL_law_X8_mended rfl rfl rfl (by decide) (na := 2) (by decide +kernel) rfl ⟨by decide, by decide⟩ (by omega) (Nat.le_of_ble_eq_true rfl) dL_law_1811 ?_
        refine aw_istore hK [(6, q_i r227), (5, q_i r222), (0, q_v (.ref b)), (1, q_r 0), (2, q_r 70), (3, q_r 108), (4, q_i x4)] (by decide) rfl dL_law_1814 ?_
        refine aw_aload_n hK 4 rfl dL_law_1816 ?_
        obtain ⟨r230, m229, h228, hF⟩ := cal_some hF
        refine aw_cv hK 8 (as := []) (tr_X8_thrown h228) gL_law_X8_thrown rfl rfl rfl (by decide) (na := 0) (by decide +kernel) rfl ⟨by decide, by decide⟩ (by omega) (Nat.le_of_ble_eq_true rfl) dL_law_1817 ?_
        refine aw_iload hK 1 rfl dL_law_1820 ?_
        refine aw_icmp_eq hK 1827 rfl dL_law_1822 (fun hc => ?_) (fun hc => ?_)
        · have hF := if_t hF hc
          refine aw_iload hK 1 rfl dL_law_1827 ?_
          refine aw_if_ne hK 1844 rfl dL_law_1829 (fun hc => ?_) (fun hc => ?_)
          · have hF := if_f hF hc
            refine aw_wd (n' := n + 7) (by omega) ?_
            refine aw_sub [2, 3, 4, 5, 6] (lv' := [(0, q_v (.ref b)), (1, q_r 0), (2, q_r 70), (3, q_r 108), (4, q_i x4)]) rfl ?_
            exact bk_L_law_1844 hK hB hL hR hrec_23 (by omega) hF
          · have hF := if_t hF hc
            refine aw_aload_n hK 5 rfl dL_law_1832 ?_
            refine aw_iconst hK (0) rfl dL_law_1833 ?_
            obtain ⟨g231, hF⟩ := gd_some hF
            refine aw_lald hK rfl g231 dL_law_1834 ?_
            refine aw_iload hK 0 rfl dL_law_1835 ?_
            refine aw_i2l hK dL_law_1837 ?_
            refine aw_lcmp hK dL_law_1838 ?_
            refine aw_if_eq hK 1844 rfl dL_law_1839 (fun hc => ?_) (fun hc => ?_)
            · have hF := if_t hF hc
              refine aw_wd (n' := n + 7) (by omega) ?_
              refine aw_sub [2, 3, 4, 5, 6] (lv' := [(0, q_v (.ref b)), (1, q_r 0), (2, q_r 70), (3, q_r 108), (4, q_i x4)]) rfl ?_
              exact bk_L_law_1844 hK hB hL hR hrec_23 (by omega) hF
            · have hF := if_f hF hc
              refine aw_iconst hK (0) rfl dL_law_1842 ?_
              obtain ⟨e1, rfl⟩ := so_inj hF
              exact absurd e1 (by decide)
        · have hF := if_f hF hc
          refine aw_iconst hK (0) rfl dL_law_1825 ?_
          obtain ⟨e1, rfl⟩ := so_inj hF
          exact absurd e1 (by decide)
      have hF := if_f hF hc23
      by_cases hc24 : ((xs (ix x4)) &&& (31 : Int32)) = (24 : Int32)
      · have hF := if_t hF hc24
        refine aw_tin hK (24) _ 1847 hc24 (by decide) (by decide) rfl rfl dL_law_40 ?_
        refine aw_aload_n hK 1 rfl dL_law_1847 ?_
        refine aw_aloadV_n hK 0 rfl dL_law_1848 ?_
        refine aw_iload hK 4 rfl dL_law_1849 ?_
        refine aw_iconst hK (1) rfl dL_law_1851 ?_
        refine aw_iadd hK dL_law_1852 ?_
        obtain ⟨g232, hF⟩ := gd_some hF
        refine aw_sld hK hL g232 dL_law_1853 ?_
        refine aw_aloadV_n hK 0 rfl dL_law_1854 ?_
        refine aw_iload hK 4 rfl dL_law_1855 ?_
        refine aw_iconst hK (2) rfl dL_law_1857 ?_
        refine aw_iadd hK dL_law_1858 ?_
        obtain ⟨g233, hF⟩ := gd_some hF
        refine aw_sld hK hL g233 dL_law_1859 ?_
        refine aw_aloadV_n hK 0 rfl dL_law_1860 ?_
        refine aw_iload hK 4 rfl dL_law_1861 ?_
        refine aw_iconst hK (3) rfl dL_law_1863 ?_
        refine aw_iadd hK dL_law_1864 ?_
        obtain ⟨g234, hF⟩ := gd_some hF
        refine aw_sld hK hL g234 dL_law_1865 ?_
        refine aw_aload_n hK 3 rfl dL_law_1866 ?_
        obtain ⟨r237, m236, h235, hF⟩ := cal_some hF
        refine aw_csW hK hB (as := [q_r 0, q_i (xs (ix (x4 + (1 : Int32)))), q_i (xs (ix (x4 + (2 : Int32)))), q_i (xs (ix (x4 + (3 : Int32)))), q_r 108]) (trW_L_apart h235) gL_law_L_apart rfl (na := 5) (by decide +kernel) rfl ⟨by decide, by decide⟩ (by omega) (Nat.le_of_ble_eq_true rfl) dL_law_1867 ?_
        refine aw_istore hK [(5, q_i r237), (0, q_v (.ref b)), (1, q_r 0), (2, q_r 70), (3, q_r 108), (4, q_i x4)] (by decide) rfl dL_law_1870 ?_
        refine aw_aload_n hK 3 rfl dL_law_1872 ?_
        refine aw_aloadV_n hK 1 rfl dL_law_1873 ?_
        refine aw_iload hK 5 rfl dL_law_1874 ?_
        refine aw_iconst hK (1) rfl dL_law_1876 ?_
        refine aw_iadd hK dL_law_1877 ?_
        obtain ⟨g238, hF⟩ := gd_some hF
        refine aw_sld hK hL g238 dL_law_1878 ?_
        refine aw_aloadV_n hK 1 rfl dL_law_1879 ?_
        refine aw_iload hK 5 rfl dL_law_1880 ?_
        refine aw_iconst hK (2) rfl dL_law_1882 ?_
        refine aw_iadd hK dL_law_1883 ?_
        obtain ⟨g239, hF⟩ := gd_some hF
        refine aw_sld hK hL g239 dL_law_1884 ?_
        refine aw_aloadV_n hK 1 rfl dL_law_1885 ?_
        refine aw_iload hK 5 rfl dL_law_1886 ?_
        refine aw_iconst hK (3) rfl dL_law_1888 ?_
        refine aw_iadd hK dL_law_1889 ?_
        obtain ⟨g240, hF⟩ := gd_some hF
        refine aw_sld hK hL g240 dL_law_1890 ?_
        obtain ⟨r243, m242, h241, hF⟩ := cal_some hF
        refine aw_cv hK 8 (as := [q_i (xs (ix (x4 + (1 : Int32)))), q_i (xs (ix (x4 + (2 : Int32)))), q_i (xs (ix (x4 + (3 : Int32))))]) (tr_X8_apart h241) gL_law_X8_apart rfl rfl rfl (by decide) (na := 3) (by decide +kernel) rfl ⟨by decide, by decide⟩ (by omega) (Nat.le_of_ble_eq_true rfl) dL_law_1891 ?_
        refine aw_istore hK [(6, q_i r243), (5, q_i r237), (0, q_v (.ref b)), (1, q_r 0), (2, q_r 70), (3, q_r 108), (4, q_i x4)] (by decide) rfl dL_law_1894 ?_
        refine aw_aload_n hK 4 rfl dL_law_1896 ?_
        obtain ⟨r246, m245, h244, hF⟩ := cal_some hF
        refine aw_cv hK 8 (as := []) (tr_X8_thrown h244) gL_law_X8_thrown rfl rfl rfl (by decide) (na := 0) (by decide +kernel) rfl ⟨by decide, by decide⟩ (by omega) (Nat.le_of_ble_eq_true rfl) dL_law_1897 ?_
        refine aw_iload hK 1 rfl dL_law_1900 ?_
        refine aw_icmp_eq hK 1907 rfl dL_law_1902 (fun hc => ?_) (fun hc => ?_)
        · have hF := if_t hF hc
          refine aw_iload hK 1 rfl dL_law_1907 ?_
          refine aw_if_ne hK 1924 rfl dL_law_1909 (fun hc => ?_) (fun hc => ?_)
          · have hF := if_f hF hc
            refine aw_wd (n' := n + 7) (by omega) ?_
            refine aw_sub [2, 3, 4, 5, 6] (lv' := [(0, q_v (.ref b)), (1, q_r 0), (2, q_r 70), (3, q_r 108), (4, q_i x4)]) rfl ?_
            exact bk_L_law_1924 hK hB hL hR hrec_23 (by omega) hF
          · have hF := if_t hF hc
            refine aw_aload_n hK 5 rfl dL_law_1912 ?_
            refine aw_iconst hK (0) rfl dL_law_1913 ?_
            obtain ⟨g247, hF⟩ := gd_some hF
            refine aw_lald hK rfl g247 dL_law_1914 ?_
            refine aw_iload hK 0 rfl dL_law_1915 ?_
            refine aw_i2l hK dL_law_1917 ?_
            refine aw_lcmp hK dL_law_1918 ?_
            refine aw_if_eq hK 1924 rfl dL_law_1919 (fun hc => ?_) (fun hc => ?_)
            · have hF := if_t hF hc
              refine aw_wd (n' := n + 7) (by omega) ?_
              refine aw_sub [2, 3, 4, 5, 6] (lv' := [(0, q_v (.ref b)), (1, q_r 0), (2, q_r 70), (3, q_r 108), (4, q_i x4)]) rfl ?_
              exact bk_L_law_1924 hK hB hL hR hrec_23 (by omega) hF
            · have hF := if_f hF hc
              refine aw_iconst hK (0) rfl dL_law_1922 ?_
              obtain ⟨e1, rfl⟩ := so_inj hF
              exact absurd e1 (by decide)
        · have hF := if_f hF hc
          refine aw_iconst hK (0) rfl dL_law_1905 ?_
          obtain ⟨e1, rfl⟩ := so_inj hF
          exact absurd e1 (by decide)
      have hF := if_f hF hc24
      by_cases hc25 : ((xs (ix x4)) &&& (31 : Int32)) = (25 : Int32)
      · have hF := if_t hF hc25
        refine aw_tin hK (25) _ 1927 hc25 (by decide) (by decide) rfl rfl dL_law_40 ?_
        refine aw_aload_n hK 1 rfl dL_law_1927 ?_
        refine aw_aloadV_n hK 0 rfl dL_law_1928 ?_
        refine aw_iload hK 4 rfl dL_law_1929 ?_
        refine aw_iconst hK (1) rfl dL_law_1931 ?_
        refine aw_iadd hK dL_law_1932 ?_
        obtain ⟨g248, hF⟩ := gd_some hF
        refine aw_sld hK hL g248 dL_law_1933 ?_
        refine aw_aloadV_n hK 0 rfl dL_law_1934 ?_
        refine aw_iload hK 4 rfl dL_law_1935 ?_
        refine aw_iconst hK (2) rfl dL_law_1937 ?_
        refine aw_iadd hK dL_law_1938 ?_
        obtain ⟨g249, hF⟩ := gd_some hF
        refine aw_sld hK hL g249 dL_law_1939 ?_
        refine aw_aloadV_n hK 0 rfl dL_law_1940 ?_
        refine aw_iload hK 4 rfl dL_law_1941 ?_
        refine aw_iconst hK (3) rfl dL_law_1943 ?_
        refine aw_iadd hK dL_law_1944 ?_
        obtain ⟨g250, hF⟩ := gd_some hF
        refine aw_sld hK hL g250 dL_law_1945 ?_
        refine aw_aloadV_n hK 0 rfl dL_law_1946 ?_
        refine aw_iload hK 4 rfl dL_law_1947 ?_
        refine aw_iconst hK (4) rfl dL_law_1949 ?_
        refine aw_iadd hK dL_law_1950 ?_
        obtain ⟨g251, hF⟩ := gd_some hF
        refine aw_sld hK hL g251 dL_law_1951 ?_
        refine aw_aloadV_n hK 0 rfl dL_law_1952 ?_
        refine aw_iload hK 4 rfl dL_law_1953 ?_
        refine aw_iconst hK (5) rfl dL_law_1955 ?_
        refine aw_iadd hK dL_law_1956 ?_
        obtain ⟨g252, hF⟩ := gd_some hF
        refine aw_sld hK hL g252 dL_law_1957 ?_
        refine aw_aload_n hK 3 rfl dL_law_1958 ?_
        obtain ⟨r255, m254, h253, hF⟩ := cal_some hF
        refine aw_csW hK hB (as := [q_r 0, q_i (xs (ix (x4 + (1 : Int32)))), q_i (xs (ix (x4 + (2 : Int32)))), q_i (xs (ix (x4 + (3 : Int32)))), q_i (xs (ix (x4 + (4 : Int32)))), q_i (xs (ix (x4 + (5 : Int32)))), q_r 108]) (trW_L_ruled h253) gL_law_L_ruled rfl (na := 7) (by decide +kernel) rfl ⟨by decide, by decide⟩ (by omega) (Nat.le_of_ble_eq_true rfl) dL_law_1959 ?_
        refine aw_istore hK [(5, q_i r255), (0, q_v (.ref b)), (1, q_r 0), (2, q_r 70), (3, q_r 108), (4, q_i x4)] (by decide) rfl dL_law_1962 ?_
        refine aw_aload_n hK 3 rfl dL_law_1964 ?_
        refine aw_aloadV_n hK 1 rfl dL_law_1965 ?_
        refine aw_iload hK 5 rfl dL_law_1966 ?_
        refine aw_iconst hK (1) rfl dL_law_1968 ?_
        refine aw_iadd hK dL_law_1969 ?_
        obtain ⟨g256, hF⟩ := gd_some hF
        refine aw_sld hK hL g256 dL_law_1970 ?_
        refine aw_aloadV_n hK 1 rfl dL_law_1971 ?_
        refine aw_iload hK 5 rfl dL_law_1972 ?_
        refine aw_iconst hK (2) rfl dL_law_1974 ?_
        refine aw_iadd hK dL_law_1975 ?_
        obtain ⟨g257, hF⟩ := gd_some hF
        refine aw_sld hK hL g257 dL_law_1976 ?_
        refine aw_aloadV_n hK 1 rfl dL_law_1977 ?_
        refine aw_iload hK 5 rfl dL_law_1978 ?_
        refine aw_iconst hK (3) rfl dL_law_1980 ?_
        refine aw_iadd hK dL_law_1981 ?_
        obtain ⟨g258, hF⟩ := gd_some hF
        refine aw_sld hK hL g258 dL_law_1982 ?_
        refine aw_aloadV_n hK 1 rfl dL_law_1983 ?_
        refine aw_iload hK 5 rfl dL_law_1984 ?_
        refine aw_iconst hK (4) rfl dL_law_1986 ?_
        refine aw_iadd hK dL_law_1987 ?_
        obtain ⟨g259, hF⟩ := gd_some hF
        refine aw_sld hK hL g259 dL_law_1988 ?_
        refine aw_aloadV_n hK 1 rfl dL_law_1989 ?_
        refine aw_iload hK 5 rfl dL_law_1990 ?_
        refine aw_iconst hK (5) rfl dL_law_1992 ?_
        refine aw_iadd hK dL_law_1993 ?_
        obtain ⟨g260, hF⟩ := gd_some hF
        refine aw_sld hK hL g260 dL_law_1994 ?_
        obtain ⟨r263, m262, h261, hF⟩ := cal_some hF
        refine aw_cv hK 8 (as := [q_i (xs (ix (x4 + (1 : Int32)))), q_i (xs (ix (x4 + (2 : Int32)))), q_i (xs (ix (x4 + (3 : Int32)))), q_i (xs (ix (x4 + (4 : Int32)))), q_i (xs (ix (x4 + (5 : Int32))))]) (tr_X8_ruled h261) gL_law_X8_ruled rfl rfl rfl (by decide) (na := 5) (by decide +kernel) rfl ⟨by decide, by decide⟩ (by omega) (Nat.le_of_ble_eq_true rfl) dL_law_1995 ?_
        refine aw_istore hK [(6, q_i r263), (5, q_i r255), (0, q_v (.ref b)), (1, q_r 0), (2, q_r 70), (3, q_r 108), (4, q_i x4)] (by decide) rfl dL_law_1998 ?_
        refine aw_aload_n hK 4 rfl dL_law_2000 ?_
        obtain ⟨r266, m265, h264, hF⟩ := cal_some hF
        refine aw_cv hK 8 (as := []) (tr_X8_thrown h264) gL_law_X8_thrown rfl rfl rfl (by decide) (na := 0) (by decide +kernel) rfl ⟨by decide, by decide⟩ (by omega) (Nat.le_of_ble_eq_true rfl) dL_law_2001 ?_
        refine aw_iload hK 1 rfl dL_law_2004 ?_
        refine aw_icmp_eq hK 2011 rfl dL_law_2006 (fun hc => ?_) (fun hc => ?_)
        · have hF := if_t hF hc
          refine aw_iload hK 1 rfl dL_law_2011 ?_
          refine aw_if_ne hK 2028 rfl dL_law_2013 (fun hc => ?_) (fun hc => ?_)
          · have hF := if_f hF hc
            refine aw_wd (n' := n + 7) (by omega) ?_
            refine aw_sub [2, 3, 4, 5, 6] (lv' := [(0, q_v (.ref b)), (1, q_r 0), (2, q_r 70), (3, q_r 108), (4, q_i x4)]) rfl ?_
            exact bk_L_law_2028 hK hB hL hR hrec_23 (by omega) hF
          · have hF := if_t hF hc
            refine aw_aload_n hK 5 rfl dL_law_2016 ?_
            refine aw_iconst hK (0) rfl dL_law_2017 ?_
            obtain ⟨g267, hF⟩ := gd_some hF
            refine aw_lald hK rfl g267 dL_law_2018 ?_
            refine aw_iload hK 0 rfl dL_law_2019 ?_
            refine aw_i2l hK dL_law_2021 ?_
            refine aw_lcmp hK dL_law_2022 ?_
            refine aw_if_eq hK 2028 rfl dL_law_2023 (fun hc => ?_) (fun hc => ?_)
            · have hF := if_t hF hc
              refine aw_wd (n' := n + 7) (by omega) ?_
              refine aw_sub [2, 3, 4, 5, 6] (lv' := [(0, q_v (.ref b)), (1, q_r 0), (2, q_r 70), (3, q_r 108), (4, q_i x4)]) rfl ?_
              exact bk_L_law_2028 hK hB hL hR hrec_23 (by omega) hF
            · have hF := if_f hF hc
              refine aw_iconst hK (0) rfl dL_law_2026 ?_
              obtain ⟨e1, rfl⟩ := so_inj hF
              exact absurd e1 (by decide)
        · have hF := if_f hF hc
          refine aw_iconst hK (0) rfl dL_law_2009 ?_
          obtain ⟨e1, rfl⟩ := so_inj hF
          exact absurd e1 (by decide)
      have hF := if_f hF hc25
      by_cases hc26 : ((xs (ix x4)) &&& (31 : Int32)) = (26 : Int32)
      · have hF := if_t hF hc26
        refine aw_tin hK (26) _ 2031 hc26 (by decide) (by decide) rfl rfl dL_law_40 ?_
        refine aw_aload_n hK 1 rfl dL_law_2031 ?_
        refine aw_aloadV_n hK 0 rfl dL_law_2032 ?_
        refine aw_iload hK 4 rfl dL_law_2033 ?_
        refine aw_iconst hK (1) rfl dL_law_2035 ?_
        refine aw_iadd hK dL_law_2036 ?_
        obtain ⟨g268, hF⟩ := gd_some hF
        refine aw_sld hK hL g268 dL_law_2037 ?_
        refine aw_aload_n hK 3 rfl dL_law_2038 ?_
        obtain ⟨r271, m270, h269, hF⟩ := cal_some hF
        refine aw_csW hK hB (as := [q_r 0, q_i (xs (ix (x4 + (1 : Int32)))), q_r 108]) (trW_L_learn h269) gL_law_L_learn rfl (na := 3) (by decide +kernel) rfl ⟨by decide, by decide⟩ (by omega) (Nat.le_of_ble_eq_true rfl) dL_law_2039 ?_
        refine aw_istore hK [(5, q_i r271), (0, q_v (.ref b)), (1, q_r 0), (2, q_r 70), (3, q_r 108), (4, q_i x4)] (by decide) rfl dL_law_2042 ?_
        refine aw_aload_n hK 3 rfl dL_law_2044 ?_
        refine aw_aloadV_n hK 1 rfl dL_law_2045 ?_
        refine aw_iload hK 5 rfl dL_law_2046 ?_
        refine aw_iconst hK (1) rfl dL_law_2048 ?_
        refine aw_iadd hK dL_law_2049 ?_
        obtain ⟨g272, hF⟩ := gd_some hF
        refine aw_sld hK hL g272 dL_law_2050 ?_
        obtain ⟨r275, m274, h273, hF⟩ := cal_some hF
        refine aw_cv hK 8 (as := [q_i (xs (ix (x4 + (1 : Int32))))]) (tr_X8_learn h273) gL_law_X8_learn rfl rfl rfl (by decide) (na := 1) (by decide +kernel) rfl ⟨by decide, by decide⟩ (by omega) (Nat.le_of_ble_eq_true rfl) dL_law_2051 ?_
        refine aw_istore hK [(6, q_i r275), (5, q_i r271), (0, q_v (.ref b)), (1, q_r 0), (2, q_r 70), (3, q_r 108), (4, q_i x4)] (by decide) rfl dL_law_2054 ?_
        refine aw_aload_n hK 4 rfl dL_law_2056 ?_
        obtain ⟨r278, m277, h276, hF⟩ := cal_some hF
        refine aw_cv hK 8 (as := []) (tr_X8_thrown h276) gL_law_X8_thrown rfl rfl rfl (by decide) (na := 0) (by decide +kernel) rfl ⟨by decide, by decide⟩ (by omega) (Nat.le_of_ble_eq_true rfl) dL_law_2057 ?_
        refine aw_iload hK 1 rfl dL_law_2060 ?_
        refine aw_icmp_eq hK 2067 rfl dL_law_2062 (fun hc => ?_) (fun hc => ?_)
        · have hF := if_t hF hc
          refine aw_iload hK 1 rfl dL_law_2067 ?_
          refine aw_if_ne hK 2084 rfl dL_law_2069 (fun hc => ?_) (fun hc => ?_)
          · have hF := if_f hF hc
            refine aw_wd (n' := n + 7) (by omega) ?_
            refine aw_sub [2, 3, 4, 5, 6] (lv' := [(0, q_v (.ref b)), (1, q_r 0), (2, q_r 70), (3, q_r 108), (4, q_i x4)]) rfl ?_
            exact bk_L_law_2084 hK hB hL hR hrec_23 (by omega) hF
          · have hF := if_t hF hc
            refine aw_aload_n hK 5 rfl dL_law_2072 ?_
            refine aw_iconst hK (0) rfl dL_law_2073 ?_
            obtain ⟨g279, hF⟩ := gd_some hF
            refine aw_lald hK rfl g279 dL_law_2074 ?_
            refine aw_iload hK 0 rfl dL_law_2075 ?_
            refine aw_i2l hK dL_law_2077 ?_
            refine aw_lcmp hK dL_law_2078 ?_
            refine aw_if_eq hK 2084 rfl dL_law_2079 (fun hc => ?_) (fun hc => ?_)
            · have hF := if_t hF hc
              refine aw_wd (n' := n + 7) (by omega) ?_
              refine aw_sub [2, 3, 4, 5, 6] (lv' := [(0, q_v (.ref b)), (1, q_r 0), (2, q_r 70), (3, q_r 108), (4, q_i x4)]) rfl ?_
              exact bk_L_law_2084 hK hB hL hR hrec_23 (by omega) hF
            · have hF := if_f hF hc
              refine aw_iconst hK (0) rfl dL_law_2082 ?_
              obtain ⟨e1, rfl⟩ := so_inj hF
              exact absurd e1 (by decide)
        · have hF := if_f hF hc
          refine aw_iconst hK (0) rfl dL_law_2065 ?_
          obtain ⟨e1, rfl⟩ := so_inj hF
          exact absurd e1 (by decide)
      have hF := if_f hF hc26
      by_cases hc27 : ((xs (ix x4)) &&& (31 : Int32)) = (27 : Int32)
      · have hF := if_t hF hc27
        refine aw_tin hK (27) _ 2087 hc27 (by decide) (by decide) rfl rfl dL_law_40 ?_
        refine aw_aload_n hK 1 rfl dL_law_2087 ?_
        obtain ⟨r282, m281, h280, hF⟩ := cal_some hF
        refine aw_cv hK 7 (as := []) (tr_X7_guess h280) gL_law_X7_guess rfl rfl rfl (by decide) (na := 0) (by decide +kernel) rfl ⟨by decide, by decide⟩ (by omega) (Nat.le_of_ble_eq_true rfl) dL_law_2088 ?_
        refine aw_aload_n hK 2 rfl dL_law_2091 ?_
        obtain ⟨r285, m284, h283, hF⟩ := cal_some hF
        refine aw_cv hK 8 (as := []) (tr_X8_guess h283) gL_law_X8_guess rfl rfl rfl (by decide) (na := 0) (by decide +kernel) rfl ⟨by decide, by decide⟩ (by omega) (Nat.le_of_ble_eq_true rfl) dL_law_2092 ?_
        refine aw_icmp_eq hK 2100 rfl dL_law_2095 (fun hc => ?_) (fun hc => ?_)
        · have hF := if_t hF hc
          refine aw_wd (n' := n + 7) (by omega) ?_
          refine aw_sub [0, 1, 2, 3, 4] (lv' := [(0, q_v (.ref b)), (1, q_r 0), (2, q_r 70), (3, q_r 108), (4, q_i x4)]) rfl ?_
          exact bk_L_law_2100 hK hB hL hR hrec_23 (by omega) hF
        · have hF := if_f hF hc
          refine aw_iconst hK (0) rfl dL_law_2098 ?_
          obtain ⟨e1, rfl⟩ := so_inj hF
          exact absurd e1 (by decide)
      have hF := if_f hF hc27
      refine aw_tout hK 2100 (tsw_out (z := 27) (by decide) (fun k hk => match k, hk with | 0, _ => hc0 | 1, _ => hc1 | 2, _ => hc2 | 3, _ => hc3 | 4, _ => hc4 | 5, _ => hc5 | 6, _ => hc6 | 7, _ => hc7 | 8, _ => hc8 | 9, _ => hc9 | 10, _ => hc10 | 11, _ => hc11 | 12, _ => hc12 | 13, _ => hc13 | 14, _ => hc14 | 15, _ => hc15 | 16, _ => hc16 | 17, _ => hc17 | 18, _ => hc18 | 19, _ => hc19 | 20, _ => hc20 | 21, _ => hc21 | 22, _ => hc22 | 23, _ => hc23 | 24, _ => hc24 | 25, _ => hc25 | 26, _ => hc26 | 27, _ => hc27 | k + 28, hk => absurd hk (by omega))) rfl dL_law_40 ?_
      refine aw_wd (n' := n + 7) (by omega) ?_
      refine aw_sub [0, 1, 2, 3, 4] (lv' := [(0, q_v (.ref b)), (1, q_r 0), (2, q_r 70), (3, q_r 108), (4, q_i x4)]) rfl ?_
      exact bk_L_law_2100 hK hB hL hR hrec_23 (by omega) hF