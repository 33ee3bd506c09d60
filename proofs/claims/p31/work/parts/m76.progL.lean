def B_L_law_1029 (N L : Nat) (xs : Nat → Int32) (m : Mem) (x5 : Int32) : Option (Int32 × Mem) :=
  some (x5, m)
set_option maxRecDepth 100000 in
set_option maxHeartbeats 40000000 in
theorem bk_L_law_1029 {N b L : Nat} {xs : Nat → Int32} {K : KT} {N0 : Nat} {m' : Mem} {n : Nat} (hK : KOK K cL_law 19 RL wsL_law 11 N0 248) (hB : KB K) (hFl : KFl K) (hL : KL K b L xs) (hR : KLr K N0) (hn : n ≤ N0) {m : Mem} {x5 : Int32} (hF : B_L_law_1029 N L xs m x5 = some (1, m')) : AW K n 1029 [(5, q_i x5)] [] m := by
  unfold B_L_law_1029 at hF
  refine aw_iload hK 0 rfl dL_law_1029 ?_
  obtain ⟨rfl, rfl⟩ := so_inj hF
  exact aw_iretL hK hR (by omega) dL_law_1031
def B_L_law_1023 (N L : Nat) (xs : Nat → Int32) (rec_52 : Mem → Int32 → Int32 → Int32 → Int32 → Int32 → Option (Int32 × Mem)) (m : Mem) (x3 : Int32) (x4 : Int32) (x5 : Int32) (x6 : Int32) (x7 : Int32) : Option (Int32 × Mem) :=
  bnd (x7 + (1 : Int32)) fun y51 =>
  rec_52 m x3 x4 x5 x6 y51
set_option maxRecDepth 100000 in
set_option maxHeartbeats 40000000 in
theorem bk_L_law_1023 {N b L : Nat} {xs : Nat → Int32} {K : KT} {N0 : Nat} {m' : Mem} {f : Nat} {rec_52 : Mem → Int32 → Int32 → Int32 → Int32 → Int32 → Option (Int32 × Mem)} {n : Nat} (hK : KOK K cL_law 19 RL wsL_law 11 N0 248) (hB : KB K) (hFl : KFl K) (hL : KL K b L xs) (hR : KLr K N0) (hrec_52 : ∀ {n : Nat} {m : Mem} {x3 : Int32} {x4 : Int32} {x5 : Int32} {x6 : Int32} {x7 : Int32} (hn : n + f * 36 ≤ N0), rec_52 m x3 x4 x5 x6 x7 = some (1, m') → AW K n 52 [(0, q_v (.ref b)), (1, q_r 0), (2, q_r 70), (3, q_i x3), (4, q_i x4), (5, q_i x5), (6, q_i x6), (7, q_i x7)] [] m) (hn : n + 36 + f * 36 ≤ N0) {m : Mem} {x3 : Int32} {x4 : Int32} {x5 : Int32} {x6 : Int32} {x7 : Int32} (hF : B_L_law_1023 N L xs rec_52 m x3 x4 x5 x6 x7 = some (1, m')) : AW K (n + 36) 1023 [(0, q_v (.ref b)), (1, q_r 0), (2, q_r 70), (3, q_i x3), (4, q_i x4), (5, q_i x5), (6, q_i x6), (7, q_i x7)] [] m := by
  unfold B_L_law_1023 at hF
  obtain ⟨y51, hy51, hF⟩ := bnd_some hF
  refine aw_iinc hK (cz := 1) 7 [(7, q_i y51), (0, q_v (.ref b)), (1, q_r 0), (2, q_r 70), (3, q_i x3), (4, q_i x4), (5, q_i x5), (6, q_i x6)] (by decide) rfl rfl hy51 rfl dL_law_1023 ?_
  refine aw_goto hK 52 rfl dL_law_1026 ?_
  refine aw_wd (n' := n + 36) (by omega) ?_
  refine aw_sub [1, 2, 3, 4, 5, 6, 7, 0] (lv' := [(0, q_v (.ref b)), (1, q_r 0), (2, q_r 70), (3, q_i x3), (4, q_i x4), (5, q_i x5), (6, q_i x6), (7, q_i y51)]) rfl ?_
  exact hrec_52 (by omega) hF
def B_L_law_1021 (N L : Nat) (xs : Nat → Int32) (rec_52 : Mem → Int32 → Int32 → Int32 → Int32 → Int32 → Option (Int32 × Mem)) (m : Mem) (x3 : Int32) (x4 : Int32) (x6 : Int32) (x7 : Int32) (s0 : Int32) : Option (Int32 × Mem) :=
  B_L_law_1023 N L xs rec_52 m x3 x4 s0 x6 x7
set_option maxRecDepth 100000 in
set_option maxHeartbeats 40000000 in
theorem bk_L_law_1021 {N b L : Nat} {xs : Nat → Int32} {K : KT} {N0 : Nat} {m' : Mem} {f : Nat} {rec_52 : Mem → Int32 → Int32 → Int32 → Int32 → Int32 → Option (Int32 × Mem)} {n : Nat} (hK : KOK K cL_law 19 RL wsL_law 11 N0 248) (hB : KB K) (hFl : KFl K) (hL : KL K b L xs) (hR : KLr K N0) (hrec_52 : ∀ {n : Nat} {m : Mem} {x3 : Int32} {x4 : Int32} {x5 : Int32} {x6 : Int32} {x7 : Int32} (hn : n + f * 36 ≤ N0), rec_52 m x3 x4 x5 x6 x7 = some (1, m') → AW K n 52 [(0, q_v (.ref b)), (1, q_r 0), (2, q_r 70), (3, q_i x3), (4, q_i x4), (5, q_i x5), (6, q_i x6), (7, q_i x7)] [] m) (hn : n + 36 + f * 36 ≤ N0) {m : Mem} {x3 : Int32} {x4 : Int32} {x6 : Int32} {x7 : Int32} {s0 : Int32} (hF : B_L_law_1021 N L xs rec_52 m x3 x4 x6 x7 s0 = some (1, m')) : AW K (n + 36) 1021 [(0, q_v (.ref b)), (1, q_r 0), (2, q_r 70), (3, q_i x3), (4, q_i x4), (6, q_i x6), (7, q_i x7)] [q_i s0] m := by
  unfold B_L_law_1021 at hF
  refine aw_istore hK [(5, q_i s0), (0, q_v (.ref b)), (1, q_r 0), (2, q_r 70), (3, q_i x3), (4, q_i x4), (6, q_i x6), (7, q_i x7)] (by decide) rfl dL_law_1021 ?_
  refine aw_wd (n' := n + 36) (by omega) ?_
  refine aw_sub [1, 2, 3, 4, 5, 0, 6, 7] (lv' := [(0, q_v (.ref b)), (1, q_r 0), (2, q_r 70), (3, q_i x3), (4, q_i x4), (5, q_i s0), (6, q_i x6), (7, q_i x7)]) rfl ?_
  exact bk_L_law_1023 hK hB hFl hL hR hrec_52 (by omega) hF
def B_L_law_1020 (N L : Nat) (xs : Nat → Int32) (rec_52 : Mem → Int32 → Int32 → Int32 → Int32 → Int32 → Option (Int32 × Mem)) (m : Mem) (x3 : Int32) (x4 : Int32) (x6 : Int32) (x7 : Int32) : Option (Int32 × Mem) :=
  B_L_law_1021 N L xs rec_52 m x3 x4 x6 x7 (0 : Int32)
set_option maxRecDepth 100000 in
set_option maxHeartbeats 40000000 in
theorem bk_L_law_1020 {N b L : Nat} {xs : Nat → Int32} {K : KT} {N0 : Nat} {m' : Mem} {f : Nat} {rec_52 : Mem → Int32 → Int32 → Int32 → Int32 → Int32 → Option (Int32 × Mem)} {n : Nat} (hK : KOK K cL_law 19 RL wsL_law 11 N0 248) (hB : KB K) (hFl : KFl K) (hL : KL K b L xs) (hR : KLr K N0) (hrec_52 : ∀ {n : Nat} {m : Mem} {x3 : Int32} {x4 : Int32} {x5 : Int32} {x6 : Int32} {x7 : Int32} (hn : n + f * 36 ≤ N0), rec_52 m x3 x4 x5 x6 x7 = some (1, m') → AW K n 52 [(0, q_v (.ref b)), (1, q_r 0), (2, q_r 70), (3, q_i x3), (4, q_i x4), (5, q_i x5), (6, q_i x6), (7, q_i x7)] [] m) (hn : n + 36 + f * 36 ≤ N0) {m : Mem} {x3 : Int32} {x4 : Int32} {x6 : Int32} {x7 : Int32} (hF : B_L_law_1020 N L xs rec_52 m x3 x4 x6 x7 = some (1, m')) : AW K (n + 36) 1020 [(0, q_v (.ref b)), (1, q_r 0), (2, q_r 70), (3, q_i x3), (4, q_i x4), (6, q_i x6), (7, q_i x7)] [] m := by
  unfold B_L_law_1020 at hF
  refine aw_iconst hK (0) rfl dL_law_1020 ?_
  refine aw_wd (n' := n + 36) (by omega) ?_
  refine aw_sub [0, 1, 2, 3, 4, 5, 6] (lv' := [(0, q_v (.ref b)), (1, q_r 0), (2, q_r 70), (3, q_i x3), (4, q_i x4), (6, q_i x6), (7, q_i x7)]) rfl ?_
  exact bk_L_law_1021 hK hB hFl hL hR hrec_52 (by omega) hF
def B_L_law_1013 (N L : Nat) (xs : Nat → Int32) (rec_52 : Mem → Int32 → Int32 → Int32 → Int32 → Int32 → Option (Int32 × Mem)) (m : Mem) (x3 : Int32) (x4 : Int32) (x6 : Int32) (x7 : Int32) (s0 : Int32) (s1 : Int32) : Option (Int32 × Mem) :=
  if s1 = s0 then (
    B_L_law_1021 N L xs rec_52 m x3 x4 x6 x7 (1 : Int32)
  ) else (
    B_L_law_1020 N L xs rec_52 m x3 x4 x6 x7
  )
set_option maxRecDepth 100000 in
set_option maxHeartbeats 40000000 in
theorem bk_L_law_1013 {N b L : Nat} {xs : Nat → Int32} {K : KT} {N0 : Nat} {m' : Mem} {f : Nat} {rec_52 : Mem → Int32 → Int32 → Int32 → Int32 → Int32 → Option (Int32 × Mem)} {n : Nat} (hK : KOK K cL_law 19 RL wsL_law 11 N0 248) (hB : KB K) (hFl : KFl K) (hL : KL K b L xs) (hR : KLr K N0) (hrec_52 : ∀ {n : Nat} {m : Mem} {x3 : Int32} {x4 : Int32} {x5 : Int32} {x6 : Int32} {x7 : Int32} (hn : n + f * 36 ≤ N0), rec_52 m x3 x4 x5 x6 x7 = some (1, m') → AW K n 52 [(0, q_v (.ref b)), (1, q_r 0), (2, q_r 70), (3, q_i x3), (4, q_i x4), (5, q_i x5), (6, q_i x6), (7, q_i x7)] [] m) (hn : n + 36 + f * 36 ≤ N0) {m : Mem} {x3 : Int32} {x4 : Int32} {x6 : Int32} {x7 : Int32} {s0 : Int32} {s1 : Int32} (hF : B_L_law_1013 N L xs rec_52 m x3 x4 x6 x7 s0 s1 = some (1, m')) : AW K (n + 36) 1013 [(0, q_v (.ref b)), (1, q_r 0), (2, q_r 70), (3, q_i x3), (4, q_i x4), (6, q_i x6), (7, q_i x7)] [q_i s0, q_i s1] m := by
  unfold B_L_law_1013 at hF
  refine aw_icmp_ne hK 1020 rfl dL_law_1013 (fun hc => ?_) (fun hc => ?_)
  · have hF := if_f hF hc
    refine aw_wd (n' := n + 36) (by omega) ?_
    refine aw_sub [0, 1, 2, 3, 4, 5, 6] (lv' := [(0, q_v (.ref b)), (1, q_r 0), (2, q_r 70), (3, q_i x3), (4, q_i x4), (6, q_i x6), (7, q_i x7)]) rfl ?_
    exact bk_L_law_1020 hK hB hFl hL hR hrec_52 (by omega) hF
  · have hF := if_t hF hc
    refine aw_iconst hK (1) rfl dL_law_1016 ?_
    refine aw_goto hK 1021 rfl dL_law_1017 ?_
    refine aw_wd (n' := n + 36) (by omega) ?_
    refine aw_sub [0, 1, 2, 3, 4, 5, 6] (lv' := [(0, q_v (.ref b)), (1, q_r 0), (2, q_r 70), (3, q_i x3), (4, q_i x4), (6, q_i x6), (7, q_i x7)]) rfl ?_
    exact bk_L_law_1021 hK hB hFl hL hR hrec_52 (by omega) hF
def B_L_law_998 (N L : Nat) (xs : Nat → Int32) (rec_52 : Mem → Int32 → Int32 → Int32 → Int32 → Int32 → Option (Int32 × Mem)) (m : Mem) (x3 : Int32) (x4 : Int32) (x6 : Int32) (x7 : Int32) (x14 : Int32) (s0 : Int32) : Option (Int32 × Mem) :=
  calL (F_X7_mended N m x14 (0 : Int32)) fun r50 m49 =>
  if (0 : Int32) ≤ r50 then (
    B_L_law_1013 N L xs rec_52 m49 x3 x4 x6 x7 (0 : Int32) s0
  ) else (
    B_L_law_1013 N L xs rec_52 m49 x3 x4 x6 x7 (1 : Int32) s0
  )
set_option maxRecDepth 100000 in
set_option maxHeartbeats 40000000 in
theorem bk_L_law_998 {N b L : Nat} {xs : Nat → Int32} {K : KT} {N0 : Nat} {m' : Mem} {f : Nat} {rec_52 : Mem → Int32 → Int32 → Int32 → Int32 → Int32 → Option (Int32 × Mem)} {n : Nat} (hK : KOK K cL_law 19 RL wsL_law 11 N0 248) (hB : KB K) (hFl : KFl K) (hL : KL K b L xs) (hR : KLr K N0) (hrec_52 : ∀ {n : Nat} {m : Mem} {x3 : Int32} {x4 : Int32} {x5 : Int32} {x6 : Int32} {x7 : Int32} (hn : n + f * 36 ≤ N0), rec_52 m x3 x4 x5 x6 x7 = some (1, m') → AW K n 52 [(0, q_v (.ref b)), (1, q_r 0), (2, q_r 70), (3, q_i x3), (4, q_i x4), (5, q_i x5), (6, q_i x6), (7, q_i x7)] [] m) (hn : n + 36 + f * 36 ≤ N0) {m : Mem} {x3 : Int32} {x4 : Int32} {x6 : Int32} {x7 : Int32} {x14 : Int32} {s0 : Int32} (hF : B_L_law_998 N L xs rec_52 m x3 x4 x6 x7 x14 s0 = some (1, m')) : AW K (n + 36) 998 [(0, q_v (.ref b)), (1, q_r 0), (2, q_r 70), (3, q_i x3), (4, q_i x4), (6, q_i x6), (7, q_i x7), (14, q_i x14)] [q_i s0] m := by
  unfold B_L_law_998 at hF
  refine aw_aload_n hK 1 rfl dL_law_998 ?_
  refine aw_iload hK 7 rfl dL_law_999 ?_
  refine aw_iconst hK (0) rfl dL_law_1001 ?_
  obtain ⟨r50, m49, h48, hF⟩ := calL_some hF
  refine aw_cv hK 7 (as := [q_i x14, q_i (0 : Int32)]) (trN_X7_mended h48) gL_law_X7_mended rfl rfl rfl (by decide) (na := 2) (by decide +kernel) rfl ⟨by decide, by decide⟩ (by omega) (Nat.le_of_ble_eq_true rfl) dL_law_1002 ?_
  refine aw_if_ge hK 1012 rfl dL_law_1005 (fun hc => ?_) (fun hc => ?_)
  · have hF := if_t hF hc
    refine aw_iconst hK (0) rfl dL_law_1012 ?_
    refine aw_wd (n' := n + 36) (by omega) ?_
    refine aw_sub [0, 1, 2, 3, 4, 5, 6] (lv' := [(0, q_v (.ref b)), (1, q_r 0), (2, q_r 70), (3, q_i x3), (4, q_i x4), (6, q_i x6), (7, q_i x7)]) rfl ?_
    exact bk_L_law_1013 hK hB hFl hL hR hrec_52 (by omega) hF
  · have hF := if_f hF hc
    refine aw_iconst hK (1) rfl dL_law_1008 ?_
    refine aw_goto hK 1013 rfl dL_law_1009 ?_
    refine aw_wd (n' := n + 36) (by omega) ?_
    refine aw_sub [0, 1, 2, 3, 4, 5, 6] (lv' := [(0, q_v (.ref b)), (1, q_r 0), (2, q_r 70), (3, q_i x3), (4, q_i x4), (6, q_i x6), (7, q_i x7)]) rfl ?_
    exact bk_L_law_1013 hK hB hFl hL hR hrec_52 (by omega) hF
def B_L_law_984 (N L : Nat) (xs : Nat → Int32) (rec_52 : Mem → Int32 → Int32 → Int32 → Int32 → Int32 → Option (Int32 × Mem)) (m : Mem) (x3 : Int32) (x4 : Int32) (x6 : Int32) (x7 : Int32) (x14 : Int32) : Option (Int32 × Mem) :=
  calL (F_X7_changes N m x14) fun r47 m46 =>
  if (0 : Int32) ≤ r47 then (
    B_L_law_998 N L xs rec_52 m46 x3 x4 x6 x7 x14 (0 : Int32)
  ) else (
    B_L_law_998 N L xs rec_52 m46 x3 x4 x6 x7 x14 (1 : Int32)
  )
set_option maxRecDepth 100000 in
set_option maxHeartbeats 40000000 in
theorem bk_L_law_984 {N b L : Nat} {xs : Nat → Int32} {K : KT} {N0 : Nat} {m' : Mem} {f : Nat} {rec_52 : Mem → Int32 → Int32 → Int32 → Int32 → Int32 → Option (Int32 × Mem)} {n : Nat} (hK : KOK K cL_law 19 RL wsL_law 11 N0 248) (hB : KB K) (hFl : KFl K) (hL : KL K b L xs) (hR : KLr K N0) (hrec_52 : ∀ {n : Nat} {m : Mem} {x3 : Int32} {x4 : Int32} {x5 : Int32} {x6 : Int32} {x7 : Int32} (hn : n + f * 36 ≤ N0), rec_52 m x3 x4 x5 x6 x7 = some (1, m') → AW K n 52 [(0, q_v (.ref b)), (1, q_r 0), (2, q_r 70), (3, q_i x3), (4, q_i x4), (5, q_i x5), (6, q_i x6), (7, q_i x7)] [] m) (hn : n + 36 + f * 36 ≤ N0) {m : Mem} {x3 : Int32} {x4 : Int32} {x6 : Int32} {x7 : Int32} {x14 : Int32} (hF : B_L_law_984 N L xs rec_52 m x3 x4 x6 x7 x14 = some (1, m')) : AW K (n + 36) 984 [(0, q_v (.ref b)), (1, q_r 0), (2, q_r 70), (3, q_i x3), (4, q_i x4), (6, q_i x6), (7, q_i x7), (14, q_i x14)] [] m := by
  unfold B_L_law_984 at hF
  refine aw_aload_n hK 1 rfl dL_law_984 ?_
  refine aw_iload hK 7 rfl dL_law_985 ?_
  obtain ⟨r47, m46, h45, hF⟩ := calL_some hF
  refine aw_cv hK 7 (as := [q_i x14]) (trN_X7_changes h45) gL_law_X7_changes rfl rfl rfl (by decide) (na := 1) (by decide +kernel) rfl ⟨by decide, by decide⟩ (by omega) (Nat.le_of_ble_eq_true rfl) dL_law_987 ?_
  refine aw_if_ge hK 997 rfl dL_law_990 (fun hc => ?_) (fun hc => ?_)
  · have hF := if_t hF hc
    refine aw_iconst hK (0) rfl dL_law_997 ?_
    refine aw_wd (n' := n + 36) (by omega) ?_
    refine aw_sub [0, 1, 2, 3, 4, 5, 6, 7] (lv' := [(0, q_v (.ref b)), (1, q_r 0), (2, q_r 70), (3, q_i x3), (4, q_i x4), (6, q_i x6), (7, q_i x7), (14, q_i x14)]) rfl ?_
    exact bk_L_law_998 hK hB hFl hL hR hrec_52 (by omega) hF
  · have hF := if_f hF hc
    refine aw_iconst hK (1) rfl dL_law_993 ?_
    refine aw_goto hK 998 rfl dL_law_994 ?_
    refine aw_wd (n' := n + 36) (by omega) ?_
    refine aw_sub [0, 1, 2, 3, 4, 5, 6, 7] (lv' := [(0, q_v (.ref b)), (1, q_r 0), (2, q_r 70), (3, q_i x3), (4, q_i x4), (6, q_i x6), (7, q_i x7), (14, q_i x14)]) rfl ?_
    exact bk_L_law_998 hK hB hFl hL hR hrec_52 (by omega) hF
def B_L_law_958 (N L : Nat) (xs : Nat → Int32) (rec_52 : Mem → Int32 → Int32 → Int32 → Int32 → Int32 → Option (Int32 × Mem)) (m : Mem) (x3 : Int32) (x4 : Int32) (x6 : Int32) (x7 : Int32) (x14 : Int32) (s0 : Int32) : Option (Int32 × Mem) :=
  if s0 = (0 : Int32) then (
    B_L_law_1020 N L xs rec_52 m x3 x4 x6 x7
  ) else (
    calL (F_X7_answers N m x14 (0 : Int32)) fun r41 m40 =>
    if r41 = (0 : Int32) then (
      B_L_law_984 N L xs rec_52 m40 x3 x4 x6 x7 x14
    ) else (
      calL (F_X7_changes N m40 x14) fun r44 m43 =>
      if r44 = (0 : Int32) then (
        B_L_law_984 N L xs rec_52 m43 x3 x4 x6 x7 x14
      ) else (
        B_L_law_1020 N L xs rec_52 m43 x3 x4 x6 x7
      )
    )
  )
set_option maxRecDepth 100000 in
set_option maxHeartbeats 40000000 in
theorem bk_L_law_958 {N b L : Nat} {xs : Nat → Int32} {K : KT} {N0 : Nat} {m' : Mem} {f : Nat} {rec_52 : Mem → Int32 → Int32 → Int32 → Int32 → Int32 → Option (Int32 × Mem)} {n : Nat} (hK : KOK K cL_law 19 RL wsL_law 11 N0 248) (hB : KB K) (hFl : KFl K) (hL : KL K b L xs) (hR : KLr K N0) (hrec_52 : ∀ {n : Nat} {m : Mem} {x3 : Int32} {x4 : Int32} {x5 : Int32} {x6 : Int32} {x7 : Int32} (hn : n + f * 36 ≤ N0), rec_52 m x3 x4 x5 x6 x7 = some (1, m') → AW K n 52 [(0, q_v (.ref b)), (1, q_r 0), (2, q_r 70), (3, q_i x3), (4, q_i x4), (5, q_i x5), (6, q_i x6), (7, q_i x7)] [] m) (hn : n + 36 + f * 36 ≤ N0) {m : Mem} {x3 : Int32} {x4 : Int32} {x6 : Int32} {x7 : Int32} {x14 : Int32} {s0 : Int32} (hF : B_L_law_958 N L xs rec_52 m x3 x4 x6 x7 x14 s0 = some (1, m')) : AW K (n + 36) 958 [(0, q_v (.ref b)), (1, q_r 0), (2, q_r 70), (3, q_i x3), (4, q_i x4), (6, q_i x6), (7, q_i x7), (14, q_i x14)] [q_i s0] m := by
  unfold B_L_law_958 at hF
  refine aw_istore hK [(5, q_i s0), (0, q_v (.ref b)), (1, q_r 0), (2, q_r 70), (3, q_i x3), (4, q_i x4), (6, q_i x6), (7, q_i x7), (14, q_i x14)] (by decide) rfl dL_law_958 ?_
  refine aw_iload hK 0 rfl dL_law_960 ?_
  refine aw_if_eq hK 1020 rfl dL_law_962 (fun hc => ?_) (fun hc => ?_)
  · have hF := if_t hF hc
    refine aw_wd (n' := n + 36) (by omega) ?_
    refine aw_sub [1, 2, 3, 4, 5, 6, 7] (lv' := [(0, q_v (.ref b)), (1, q_r 0), (2, q_r 70), (3, q_i x3), (4, q_i x4), (6, q_i x6), (7, q_i x7)]) rfl ?_
    exact bk_L_law_1020 hK hB hFl hL hR hrec_52 (by omega) hF
  · have hF := if_f hF hc
    refine aw_aload_n hK 2 rfl dL_law_965 ?_
    refine aw_iload hK 8 rfl dL_law_966 ?_
    refine aw_iconst hK (0) rfl dL_law_968 ?_
    obtain ⟨r41, m40, h39, hF⟩ := calL_some hF
    refine aw_cv hK 7 (as := [q_i x14, q_i (0 : Int32)]) (trN_X7_answers h39) gL_law_X7_answers rfl rfl rfl (by decide) (na := 2) (by decide +kernel) rfl ⟨by decide, by decide⟩ (by omega) (Nat.le_of_ble_eq_true rfl) dL_law_969 ?_
    refine aw_if_eq hK 984 rfl dL_law_972 (fun hc => ?_) (fun hc => ?_)
    · have hF := if_t hF hc
      refine aw_wd (n' := n + 36) (by omega) ?_
      refine aw_sub [1, 2, 3, 4, 5, 6, 7, 8] (lv' := [(0, q_v (.ref b)), (1, q_r 0), (2, q_r 70), (3, q_i x3), (4, q_i x4), (6, q_i x6), (7, q_i x7), (14, q_i x14)]) rfl ?_
      exact bk_L_law_984 hK hB hFl hL hR hrec_52 (by omega) hF
    · have hF := if_f hF hc
      refine aw_aload_n hK 2 rfl dL_law_975 ?_
      refine aw_iload hK 8 rfl dL_law_976 ?_
      obtain ⟨r44, m43, h42, hF⟩ := calL_some hF
      refine aw_cv hK 7 (as := [q_i x14]) (trN_X7_changes h42) gL_law_X7_changes rfl rfl rfl (by decide) (na := 1) (by decide +kernel) rfl ⟨by decide, by decide⟩ (by omega) (Nat.le_of_ble_eq_true rfl) dL_law_978 ?_
      refine aw_if_ne hK 1020 rfl dL_law_981 (fun hc => ?_) (fun hc => ?_)
      · have hF := if_f hF hc
        refine aw_wd (n' := n + 36) (by omega) ?_
        refine aw_sub [1, 2, 3, 4, 5, 6, 7] (lv' := [(0, q_v (.ref b)), (1, q_r 0), (2, q_r 70), (3, q_i x3), (4, q_i x4), (6, q_i x6), (7, q_i x7)]) rfl ?_
        exact bk_L_law_1020 hK hB hFl hL hR hrec_52 (by omega) hF
      · have hF := if_t hF hc
        refine aw_wd (n' := n + 36) (by omega) ?_
        refine aw_sub [1, 2, 3, 4, 5, 6, 7, 8] (lv' := [(0, q_v (.ref b)), (1, q_r 0), (2, q_r 70), (3, q_i x3), (4, q_i x4), (6, q_i x6), (7, q_i x7), (14, q_i x14)]) rfl ?_
        exact bk_L_law_984 hK hB hFl hL hR hrec_52 (by omega) hF
def B_L_law_957 (N L : Nat) (xs : Nat → Int32) (rec_52 : Mem → Int32 → Int32 → Int32 → Int32 → Int32 → Option (Int32 × Mem)) (m : Mem) (x3 : Int32) (x4 : Int32) (x6 : Int32) (x7 : Int32) (x14 : Int32) : Option (Int32 × Mem) :=
  B_L_law_958 N L xs rec_52 m x3 x4 x6 x7 x14 (0 : Int32)
set_option maxRecDepth 100000 in
set_option maxHeartbeats 40000000 in
theorem bk_L_law_957 {N b L : Nat} {xs : Nat → Int32} {K : KT} {N0 : Nat} {m' : Mem} {f : Nat} {rec_52 : Mem → Int32 → Int32 → Int32 → Int32 → Int32 → Option (Int32 × Mem)} {n : Nat} (hK : KOK K cL_law 19 RL wsL_law 11 N0 248) (hB : KB K) (hFl : KFl K) (hL : KL K b L xs) (hR : KLr K N0) (hrec_52 : ∀ {n : Nat} {m : Mem} {x3 : Int32} {x4 : Int32} {x5 : Int32} {x6 : Int32} {x7 : Int32} (hn : n + f * 36 ≤ N0), rec_52 m x3 x4 x5 x6 x7 = some (1, m') → AW K n 52 [(0, q_v (.ref b)), (1, q_r 0), (2, q_r 70), (3, q_i x3), (4, q_i x4), (5, q_i x5), (6, q_i x6), (7, q_i x7)] [] m) (hn : n + 36 + f * 36 ≤ N0) {m : Mem} {x3 : Int32} {x4 : Int32} {x6 : Int32} {x7 : Int32} {x14 : Int32} (hF : B_L_law_957 N L xs rec_52 m x3 x4 x6 x7 x14 = some (1, m')) : AW K (n + 36) 957 [(0, q_v (.ref b)), (1, q_r 0), (2, q_r 70), (3, q_i x3), (4, q_i x4), (6, q_i x6), (7, q_i x7), (14, q_i x14)] [] m := by
  unfold B_L_law_957 at hF
  refine aw_iconst hK (0) rfl dL_law_957 ?_
  refine aw_wd (n' := n + 36) (by omega) ?_
  refine aw_sub [0, 1, 2, 3, 4, 5, 6, 7] (lv' := [(0, q_v (.ref b)), (1, q_r 0), (2, q_r 70), (3, q_i x3), (4, q_i x4), (6, q_i x6), (7, q_i x7), (14, q_i x14)]) rfl ?_
  exact bk_L_law_958 hK hB hFl hL hR hrec_52 (by omega) hF
def B_L_law_953 (N L : Nat) (xs : Nat → Int32) (rec_52 : Mem → Int32 → Int32 → Int32 → Int32 → Int32 → Option (Int32 × Mem)) (m : Mem) (x3 : Int32) (x4 : Int32) (x6 : Int32) (x7 : Int32) (x14 : Int32) : Option (Int32 × Mem) :=
  B_L_law_958 N L xs rec_52 m x3 x4 x6 x7 x14 (1 : Int32)
set_option maxRecDepth 100000 in
set_option maxHeartbeats 40000000 in
theorem bk_L_law_953 {N b L : Nat} {xs : Nat → Int32} {K : KT} {N0 : Nat} {m' : Mem} {f : Nat} {rec_52 : Mem → Int32 → Int32 → Int32 → Int32 → Int32 → Option (Int32 × Mem)} {n : Nat} (hK : KOK K cL_law 19 RL wsL_law 11 N0 248) (hB : KB K) (hFl : KFl K) (hL : KL K b L xs) (hR : KLr K N0) (hrec_52 : ∀ {n : Nat} {m : Mem} {x3 : Int32} {x4 : Int32} {x5 : Int32} {x6 : Int32} {x7 : Int32} (hn : n + f * 36 ≤ N0), rec_52 m x3 x4 x5 x6 x7 = some (1, m') → AW K n 52 [(0, q_v (.ref b)), (1, q_r 0), (2, q_r 70), (3, q_i x3), (4, q_i x4), (5, q_i x5), (6, q_i x6), (7, q_i x7)] [] m) (hn : n + 36 + f * 36 ≤ N0) {m : Mem} {x3 : Int32} {x4 : Int32} {x6 : Int32} {x7 : Int32} {x14 : Int32} (hF : B_L_law_953 N L xs rec_52 m x3 x4 x6 x7 x14 = some (1, m')) : AW K (n + 36) 953 [(0, q_v (.ref b)), (1, q_r 0), (2, q_r 70), (3, q_i x3), (4, q_i x4), (6, q_i x6), (7, q_i x7), (14, q_i x14)] [] m := by
  unfold B_L_law_953 at hF
  refine aw_iconst hK (1) rfl dL_law_953 ?_
  refine aw_goto hK 958 rfl dL_law_954 ?_
  refine aw_wd (n' := n + 36) (by omega) ?_
  refine aw_sub [0, 1, 2, 3, 4, 5, 6, 7] (lv' := [(0, q_v (.ref b)), (1, q_r 0), (2, q_r 70), (3, q_i x3), (4, q_i x4), (6, q_i x6), (7, q_i x7), (14, q_i x14)]) rfl ?_
  exact bk_L_law_958 hK hB hFl hL hR hrec_52 (by omega) hF
def B_L_law_902 (N L : Nat) (xs : Nat → Int32) (rec_52 : Mem → Int32 → Int32 → Int32 → Int32 → Int32 → Option (Int32 × Mem)) (m : Mem) (x3 : Int32) (x4 : Int32) (x6 : Int32) (x7 : Int32) (x9 : Int32) (x14 : Int32) (s0 : Int32) : Option (Int32 × Mem) :=
  cal (F_L_areAnswers N m x14 s0) fun r28 m27 =>
  if r28 = (0 : Int32) then (
    B_L_law_957 N L xs rec_52 m27 x3 x4 x6 x7 x14
  ) else (
    calL (F_X7_answers N m27 x14 s0) fun r31 m30 =>
    if r31 = (0 : Int32) then (
      B_L_law_953 N L xs rec_52 m30 x3 x4 x6 x7 x14
    ) else (
      calL (F_X7_answers N m30 x14 s0) fun r34 m33 =>
      gd (r34 != 0) <|
      cal (F_L_isBack N m33 x14 s0 (q_rem (q_shr x9 (8 : Int32)) r34) x3) fun r38 m37 =>
      if r38 = (0 : Int32) then (
        B_L_law_957 N L xs rec_52 m37 x3 x4 x6 x7 x14
      ) else (
        B_L_law_953 N L xs rec_52 m37 x3 x4 x6 x7 x14
      )
    )
  )
set_option maxRecDepth 100000 in
set_option maxHeartbeats 40000000 in
theorem bk_L_law_902 {N b L : Nat} {xs : Nat → Int32} {K : KT} {N0 : Nat} {m' : Mem} {f : Nat} {rec_52 : Mem → Int32 → Int32 → Int32 → Int32 → Int32 → Option (Int32 × Mem)} {n : Nat} (hK : KOK K cL_law 19 RL wsL_law 11 N0 248) (hB : KB K) (hFl : KFl K) (hL : KL K b L xs) (hR : KLr K N0) (hrec_52 : ∀ {n : Nat} {m : Mem} {x3 : Int32} {x4 : Int32} {x5 : Int32} {x6 : Int32} {x7 : Int32} (hn : n + f * 36 ≤ N0), rec_52 m x3 x4 x5 x6 x7 = some (1, m') → AW K n 52 [(0, q_v (.ref b)), (1, q_r 0), (2, q_r 70), (3, q_i x3), (4, q_i x4), (5, q_i x5), (6, q_i x6), (7, q_i x7)] [] m) (hn : n + 36 + f * 36 ≤ N0) {m : Mem} {x3 : Int32} {x4 : Int32} {x6 : Int32} {x7 : Int32} {x9 : Int32} {x14 : Int32} {s0 : Int32} (hF : B_L_law_902 N L xs rec_52 m x3 x4 x6 x7 x9 x14 s0 = some (1, m')) : AW K (n + 35) 902 [(0, q_v (.ref b)), (1, q_r 0), (2, q_r 70), (3, q_i x3), (4, q_i x4), (6, q_i x6), (7, q_i x7), (9, q_i x9), (14, q_i x14)] [q_i s0] m := by
  unfold B_L_law_902 at hF
  refine aw_istore hK [(15, q_i s0), (0, q_v (.ref b)), (1, q_r 0), (2, q_r 70), (3, q_i x3), (4, q_i x4), (6, q_i x6), (7, q_i x7), (9, q_i x9), (14, q_i x14)] (by decide) rfl dL_law_902 ?_
  refine aw_aload_n hK 2 rfl dL_law_904 ?_
  refine aw_iload hK 9 rfl dL_law_905 ?_
  refine aw_iload hK 0 rfl dL_law_907 ?_
  obtain ⟨r28, m27, h26, hF⟩ := cal_some hF
  refine aw_csP hK (as := [q_r 0, q_i x14, q_i s0]) (tr_L_areAnswers h26) gL_law_L_areAnswers rfl (na := 3) (by decide +kernel) rfl ⟨by decide, by decide⟩ (by omega) (Nat.le_of_ble_eq_true rfl) dL_law_909 ?_
  refine aw_if_eq hK 957 rfl dL_law_912 (fun hc => ?_) (fun hc => ?_)
  · have hF := if_t hF hc
    refine aw_wd (n' := n + 36) (by omega) ?_
    refine aw_sub [1, 2, 3, 4, 5, 6, 7, 9] (lv' := [(0, q_v (.ref b)), (1, q_r 0), (2, q_r 70), (3, q_i x3), (4, q_i x4), (6, q_i x6), (7, q_i x7), (14, q_i x14)]) rfl ?_
    exact bk_L_law_957 hK hB hFl hL hR hrec_52 (by omega) hF
  · have hF := if_f hF hc
    refine aw_aload_n hK 2 rfl dL_law_915 ?_
    refine aw_iload hK 9 rfl dL_law_916 ?_
    refine aw_iload hK 0 rfl dL_law_918 ?_
    obtain ⟨r31, m30, h29, hF⟩ := calL_some hF
    refine aw_cv hK 7 (as := [q_i x14, q_i s0]) (trN_X7_answers h29) gL_law_X7_answers rfl rfl rfl (by decide) (na := 2) (by decide +kernel) rfl ⟨by decide, by decide⟩ (by omega) (Nat.le_of_ble_eq_true rfl) dL_law_920 ?_
    refine aw_if_eq hK 953 rfl dL_law_923 (fun hc => ?_) (fun hc => ?_)
    · have hF := if_t hF hc
      refine aw_wd (n' := n + 36) (by omega) ?_
      refine aw_sub [1, 2, 3, 4, 5, 6, 7, 9] (lv' := [(0, q_v (.ref b)), (1, q_r 0), (2, q_r 70), (3, q_i x3), (4, q_i x4), (6, q_i x6), (7, q_i x7), (14, q_i x14)]) rfl ?_
      exact bk_L_law_953 hK hB hFl hL hR hrec_52 (by omega) hF
    · have hF := if_f hF hc
      refine aw_aload_n hK 2 rfl dL_law_926 ?_
      refine aw_iload hK 9 rfl dL_law_927 ?_
      refine aw_iload hK 0 rfl dL_law_929 ?_
      refine aw_iload hK 8 rfl dL_law_931 ?_
      refine aw_bipush hK (8) rfl dL_law_933 ?_
      refine aw_ishr hK dL_law_935 ?_
      refine aw_aload_n hK 2 rfl dL_law_936 ?_
      refine aw_iload hK 9 rfl dL_law_937 ?_
      refine aw_iload hK 0 rfl dL_law_939 ?_
      obtain ⟨r34, m33, h32, hF⟩ := calL_some hF
      refine aw_cv hK 7 (as := [q_i x14, q_i s0]) (trN_X7_answers h32) gL_law_X7_answers rfl rfl rfl (by decide) (na := 2) (by decide +kernel) rfl ⟨by decide, by decide⟩ (by omega) (Nat.le_of_ble_eq_true rfl) dL_law_941 ?_
      obtain ⟨g35, hF⟩ := gd_some hF
      refine aw_irem hK (bne_iff_ne.mp g35) dL_law_944 ?_
      refine aw_aload_n hK 3 rfl dL_law_945 ?_
      refine aw_iload_n hK 4 rfl dL_law_946 ?_
      obtain ⟨r38, m37, h36, hF⟩ := cal_some hF
      refine aw_csB hK hB hFl (as := [q_r 0, q_i x14, q_i s0, q_i (q_rem (q_shr x9 (8 : Int32)) r34), q_r 70, q_i x3]) (trB_L_isBack h36) gL_law_L_isBack rfl (na := 6) (by decide +kernel) rfl ⟨by decide, by decide⟩ (by omega) (Nat.le_of_ble_eq_true rfl) dL_law_947 ?_
      refine aw_if_eq hK 957 rfl dL_law_950 (fun hc => ?_) (fun hc => ?_)
      · have hF := if_t hF hc
        refine aw_wd (n' := n + 36) (by omega) ?_
        refine aw_sub [1, 2, 3, 4, 5, 6, 7, 9] (lv' := [(0, q_v (.ref b)), (1, q_r 0), (2, q_r 70), (3, q_i x3), (4, q_i x4), (6, q_i x6), (7, q_i x7), (14, q_i x14)]) rfl ?_
        exact bk_L_law_957 hK hB hFl hL hR hrec_52 (by omega) hF
      · have hF := if_f hF hc
        refine aw_wd (n' := n + 36) (by omega) ?_
        refine aw_sub [1, 2, 3, 4, 5, 6, 7, 9] (lv' := [(0, q_v (.ref b)), (1, q_r 0), (2, q_r 70), (3, q_i x3), (4, q_i x4), (6, q_i x6), (7, q_i x7), (14, q_i x14)]) rfl ?_
        exact bk_L_law_953 hK hB hFl hL hR hrec_52 (by omega) hF
def B_L_law_857 (N L : Nat) (xs : Nat → Int32) (rec_52 : Mem → Int32 → Int32 → Int32 → Int32 → Int32 → Option (Int32 × Mem)) (m : Mem) (x3 : Int32) (x5 : Int32) (x6 : Int32) (x7 : Int32) (x9 : Int32) (s0 : Int32) : Option (Int32 × Mem) :=
  if x5 = (0 : Int32) then (
    B_L_law_1023 N L xs rec_52 m x3 s0 x5 x6 x7
  ) else (
    if s0 ≤ (0 : Int32) then (
      B_L_law_1023 N L xs rec_52 m x3 s0 x5 x6 x7
    ) else (
      if (q_rem x7 (3 : Int32)) = (2 : Int32) then (
        gd (s0 != 0) <|
        bnd (q_rem (q_shr x9 (2 : Int32)) s0) fun y25 =>
        if ((q_shr x9 (7 : Int32)) &&& (1 : Int32)) = (1 : Int32) then (
          B_L_law_902 N L xs rec_52 m x3 s0 x6 x7 x9 y25 (1 : Int32)
        ) else (
          B_L_law_902 N L xs rec_52 m x3 s0 x6 x7 x9 y25 (0 : Int32)
        )
      ) else (
        B_L_law_1023 N L xs rec_52 m x3 s0 x5 x6 x7
      )
    )
  )
set_option maxRecDepth 100000 in
set_option maxHeartbeats 40000000 in
theorem bk_L_law_857 {N b L : Nat} {xs : Nat → Int32} {K : KT} {N0 : Nat} {m' : Mem} {f : Nat} {rec_52 : Mem → Int32 → Int32 → Int32 → Int32 → Int32 → Option (Int32 × Mem)} {n : Nat} (hK : KOK K cL_law 19 RL wsL_law 11 N0 248) (hB : KB K) (hFl : KFl K) (hL : KL K b L xs) (hR : KLr K N0) (hrec_52 : ∀ {n : Nat} {m : Mem} {x3 : Int32} {x4 : Int32} {x5 : Int32} {x6 : Int32} {x7 : Int32} (hn : n + f * 36 ≤ N0), rec_52 m x3 x4 x5 x6 x7 = some (1, m') → AW K n 52 [(0, q_v (.ref b)), (1, q_r 0), (2, q_r 70), (3, q_i x3), (4, q_i x4), (5, q_i x5), (6, q_i x6), (7, q_i x7)] [] m) (hn : n + 36 + f * 36 ≤ N0) {m : Mem} {x3 : Int32} {x5 : Int32} {x6 : Int32} {x7 : Int32} {x9 : Int32} {s0 : Int32} (hF : B_L_law_857 N L xs rec_52 m x3 x5 x6 x7 x9 s0 = some (1, m')) : AW K (n + 35) 857 [(0, q_v (.ref b)), (1, q_r 0), (2, q_r 70), (3, q_i x3), (5, q_i x5), (6, q_i x6), (7, q_i x7), (9, q_i x9)] [q_i s0] m := by
  unfold B_L_law_857 at hF
  refine aw_istore hK [(4, q_i s0), (0, q_v (.ref b)), (1, q_r 0), (2, q_r 70), (3, q_i x3), (5, q_i x5), (6, q_i x6), (7, q_i x7), (9, q_i x9)] (by decide) rfl dL_law_857 ?_
  refine aw_iload hK 5 rfl dL_law_859 ?_
  refine aw_if_eq hK 1023 rfl dL_law_861 (fun hc => ?_) (fun hc => ?_)
  · have hF := if_t hF hc
    refine aw_wd (n' := n + 36) (by omega) ?_
    refine aw_sub [1, 2, 3, 4, 0, 5, 6, 7] (lv' := [(0, q_v (.ref b)), (1, q_r 0), (2, q_r 70), (3, q_i x3), (4, q_i s0), (5, q_i x5), (6, q_i x6), (7, q_i x7)]) rfl ?_
    exact bk_L_law_1023 hK hB hFl hL hR hrec_52 (by omega) hF
  · have hF := if_f hF hc
    refine aw_iload hK 0 rfl dL_law_864 ?_
    refine aw_if_le hK 1023 rfl dL_law_866 (fun hc => ?_) (fun hc => ?_)
    · have hF := if_t hF hc
      refine aw_wd (n' := n + 36) (by omega) ?_
      refine aw_sub [1, 2, 3, 4, 0, 5, 6, 7] (lv' := [(0, q_v (.ref b)), (1, q_r 0), (2, q_r 70), (3, q_i x3), (4, q_i s0), (5, q_i x5), (6, q_i x6), (7, q_i x7)]) rfl ?_
      exact bk_L_law_1023 hK hB hFl hL hR hrec_52 (by omega) hF
    · have hF := if_f hF hc
      refine aw_iload hK 7 rfl dL_law_869 ?_
      refine aw_iconst hK (3) rfl dL_law_871 ?_
      refine aw_irem hK (by decide) dL_law_872 ?_
      refine aw_iconst hK (2) rfl dL_law_873 ?_
      refine aw_icmp_ne hK 1023 rfl dL_law_874 (fun hc => ?_) (fun hc => ?_)
      · have hF := if_f hF hc
        refine aw_wd (n' := n + 36) (by omega) ?_
        refine aw_sub [1, 2, 3, 4, 0, 5, 6, 7] (lv' := [(0, q_v (.ref b)), (1, q_r 0), (2, q_r 70), (3, q_i x3), (4, q_i s0), (5, q_i x5), (6, q_i x6), (7, q_i x7)]) rfl ?_
        exact bk_L_law_1023 hK hB hFl hL hR hrec_52 (by omega) hF
      · have hF := if_t hF hc
        refine aw_iload hK 8 rfl dL_law_877 ?_
        refine aw_iconst hK (2) rfl dL_law_879 ?_
        refine aw_ishr hK dL_law_880 ?_
        refine aw_iload hK 0 rfl dL_law_881 ?_
        obtain ⟨g24, hF⟩ := gd_some hF
        refine aw_irem hK (bne_iff_ne.mp g24) dL_law_883 ?_
        obtain ⟨y25, hy25, hF⟩ := bnd_some hF
        refine aw_nm hy25 ?_
        refine aw_istore hK [(14, q_i y25), (4, q_i s0), (0, q_v (.ref b)), (1, q_r 0), (2, q_r 70), (3, q_i x3), (5, q_i x5), (6, q_i x6), (7, q_i x7), (9, q_i x9)] (by decide) rfl dL_law_884 ?_
        refine aw_iload hK 9 rfl dL_law_886 ?_
        refine aw_bipush hK (7) rfl dL_law_888 ?_
        refine aw_ishr hK dL_law_890 ?_
        refine aw_iconst hK (1) rfl dL_law_891 ?_
        refine aw_iand hK dL_law_892 ?_
        refine aw_iconst hK (1) rfl dL_law_893 ?_
        refine aw_icmp_ne hK 901 rfl dL_law_894 (fun hc => ?_) (fun hc => ?_)
        · have hF := if_f hF hc
          refine aw_iconst hK (0) rfl dL_law_901 ?_
          refine aw_wd (n' := n + 35) (by omega) ?_
          refine aw_sub [2, 3, 4, 5, 1, 7, 8, 9, 0] (lv' := [(0, q_v (.ref b)), (1, q_r 0), (2, q_r 70), (3, q_i x3), (4, q_i s0), (6, q_i x6), (7, q_i x7), (9, q_i x9), (14, q_i y25)]) rfl ?_
          exact bk_L_law_902 hK hB hFl hL hR hrec_52 (by omega) hF
        · have hF := if_t hF hc
          refine aw_iconst hK (1) rfl dL_law_897 ?_
          refine aw_goto hK 902 rfl dL_law_898 ?_
          refine aw_wd (n' := n + 35) (by omega) ?_
          refine aw_sub [2, 3, 4, 5, 1, 7, 8, 9, 0] (lv' := [(0, q_v (.ref b)), (1, q_r 0), (2, q_r 70), (3, q_i x3), (4, q_i s0), (6, q_i x6), (7, q_i x7), (9, q_i x9), (14, q_i y25)]) rfl ?_
          exact bk_L_law_902 hK hB hFl hL hR hrec_52 (by omega) hF
def B_L_law_839 (N L : Nat) (xs : Nat → Int32) (rec_52 : Mem → Int32 → Int32 → Int32 → Int32 → Int32 → Option (Int32 × Mem)) (m : Mem) (x3 : Int32) (x4 : Int32) (x6 : Int32) (x7 : Int32) (x9 : Int32) (x13 : Int32) (s0 : Int32) : Option (Int32 × Mem) :=
  if x13 < x4 then (
    B_L_law_857 N L xs rec_52 m x3 s0 x6 x7 x9 x4
  ) else (
    B_L_law_857 N L xs rec_52 m x3 s0 x6 x7 x9 (x13 + (1 : Int32))
  )
set_option maxRecDepth 100000 in
set_option maxHeartbeats 40000000 in
theorem bk_L_law_839 {N b L : Nat} {xs : Nat → Int32} {K : KT} {N0 : Nat} {m' : Mem} {f : Nat} {rec_52 : Mem → Int32 → Int32 → Int32 → Int32 → Int32 → Option (Int32 × Mem)} {n : Nat} (hK : KOK K cL_law 19 RL wsL_law 11 N0 248) (hB : KB K) (hFl : KFl K) (hL : KL K b L xs) (hR : KLr K N0) (hrec_52 : ∀ {n : Nat} {m : Mem} {x3 : Int32} {x4 : Int32} {x5 : Int32} {x6 : Int32} {x7 : Int32} (hn : n + f * 36 ≤ N0), rec_52 m x3 x4 x5 x6 x7 = some (1, m') → AW K n 52 [(0, q_v (.ref b)), (1, q_r 0), (2, q_r 70), (3, q_i x3), (4, q_i x4), (5, q_i x5), (6, q_i x6), (7, q_i x7)] [] m) (hn : n + 36 + f * 36 ≤ N0) {m : Mem} {x3 : Int32} {x4 : Int32} {x6 : Int32} {x7 : Int32} {x9 : Int32} {x13 : Int32} {s0 : Int32} (hF : B_L_law_839 N L xs rec_52 m x3 x4 x6 x7 x9 x13 s0 = some (1, m')) : AW K (n + 35) 839 [(0, q_v (.ref b)), (1, q_r 0), (2, q_r 70), (3, q_i x3), (4, q_i x4), (6, q_i x6), (7, q_i x7), (9, q_i x9), (13, q_i x13)] [q_i s0] m := by
  unfold B_L_law_839 at hF
  refine aw_istore hK [(5, q_i s0), (0, q_v (.ref b)), (1, q_r 0), (2, q_r 70), (3, q_i x3), (4, q_i x4), (6, q_i x6), (7, q_i x7), (9, q_i x9), (13, q_i x13)] (by decide) rfl dL_law_839 ?_
  refine aw_iload hK 9 rfl dL_law_841 ?_
  refine aw_iload hK 5 rfl dL_law_843 ?_
  refine aw_icmp_lt hK 855 rfl dL_law_845 (fun hc => ?_) (fun hc => ?_)
  · have hF := if_t hF hc
    refine aw_iload hK 5 rfl dL_law_855 ?_
    refine aw_wd (n' := n + 35) (by omega) ?_
    refine aw_sub [1, 2, 3, 4, 0, 6, 7, 8] (lv' := [(0, q_v (.ref b)), (1, q_r 0), (2, q_r 70), (3, q_i x3), (5, q_i s0), (6, q_i x6), (7, q_i x7), (9, q_i x9)]) rfl ?_
    exact bk_L_law_857 hK hB hFl hL hR hrec_52 (by omega) hF
  · have hF := if_f hF hc
    refine aw_iload hK 9 rfl dL_law_848 ?_
    refine aw_iconst hK (1) rfl dL_law_850 ?_
    refine aw_iadd hK dL_law_851 ?_
    refine aw_goto hK 857 rfl dL_law_852 ?_
    refine aw_wd (n' := n + 35) (by omega) ?_
    refine aw_sub [1, 2, 3, 4, 0, 6, 7, 8] (lv' := [(0, q_v (.ref b)), (1, q_r 0), (2, q_r 70), (3, q_i x3), (5, q_i s0), (6, q_i x6), (7, q_i x7), (9, q_i x9)]) rfl ?_
    exact bk_L_law_857 hK hB hFl hL hR hrec_52 (by omega) hF
def B_L_law_838 (N L : Nat) (xs : Nat → Int32) (rec_52 : Mem → Int32 → Int32 → Int32 → Int32 → Int32 → Option (Int32 × Mem)) (m : Mem) (x3 : Int32) (x4 : Int32) (x6 : Int32) (x7 : Int32) (x9 : Int32) (x13 : Int32) : Option (Int32 × Mem) :=
  B_L_law_839 N L xs rec_52 m x3 x4 x6 x7 x9 x13 (0 : Int32)
set_option maxRecDepth 100000 in
set_option maxHeartbeats 40000000 in
theorem bk_L_law_838 {N b L : Nat} {xs : Nat → Int32} {K : KT} {N0 : Nat} {m' : Mem} {f : Nat} {rec_52 : Mem → Int32 → Int32 → Int32 → Int32 → Int32 → Option (Int32 × Mem)} {n : Nat} (hK : KOK K cL_law 19 RL wsL_law 11 N0 248) (hB : KB K) (hFl : KFl K) (hL : KL K b L xs) (hR : KLr K N0) (hrec_52 : ∀ {n : Nat} {m : Mem} {x3 : Int32} {x4 : Int32} {x5 : Int32} {x6 : Int32} {x7 : Int32} (hn : n + f * 36 ≤ N0), rec_52 m x3 x4 x5 x6 x7 = some (1, m') → AW K n 52 [(0, q_v (.ref b)), (1, q_r 0), (2, q_r 70), (3, q_i x3), (4, q_i x4), (5, q_i x5), (6, q_i x6), (7, q_i x7)] [] m) (hn : n + 36 + f * 36 ≤ N0) {m : Mem} {x3 : Int32} {x4 : Int32} {x6 : Int32} {x7 : Int32} {x9 : Int32} {x13 : Int32} (hF : B_L_law_838 N L xs rec_52 m x3 x4 x6 x7 x9 x13 = some (1, m')) : AW K (n + 35) 838 [(0, q_v (.ref b)), (1, q_r 0), (2, q_r 70), (3, q_i x3), (4, q_i x4), (6, q_i x6), (7, q_i x7), (9, q_i x9), (13, q_i x13)] [] m := by
  unfold B_L_law_838 at hF
  refine aw_iconst hK (0) rfl dL_law_838 ?_
  refine aw_wd (n' := n + 35) (by omega) ?_
  refine aw_sub [0, 1, 2, 3, 4, 5, 6, 7, 8] (lv' := [(0, q_v (.ref b)), (1, q_r 0), (2, q_r 70), (3, q_i x3), (4, q_i x4), (6, q_i x6), (7, q_i x7), (9, q_i x9), (13, q_i x13)]) rfl ?_
  exact bk_L_law_839 hK hB hFl hL hR hrec_52 (by omega) hF
def B_L_law_834 (N L : Nat) (xs : Nat → Int32) (rec_52 : Mem → Int32 → Int32 → Int32 → Int32 → Int32 → Option (Int32 × Mem)) (m : Mem) (x3 : Int32) (x4 : Int32) (x6 : Int32) (x7 : Int32) (x9 : Int32) (x13 : Int32) : Option (Int32 × Mem) :=
  B_L_law_839 N L xs rec_52 m x3 x4 x6 x7 x9 x13 (1 : Int32)
set_option maxRecDepth 100000 in
set_option maxHeartbeats 40000000 in
theorem bk_L_law_834 {N b L : Nat} {xs : Nat → Int32} {K : KT} {N0 : Nat} {m' : Mem} {f : Nat} {rec_52 : Mem → Int32 → Int32 → Int32 → Int32 → Int32 → Option (Int32 × Mem)} {n : Nat} (hK : KOK K cL_law 19 RL wsL_law 11 N0 248) (hB : KB K) (hFl : KFl K) (hL : KL K b L xs) (hR : KLr K N0) (hrec_52 : ∀ {n : Nat} {m : Mem} {x3 : Int32} {x4 : Int32} {x5 : Int32} {x6 : Int32} {x7 : Int32} (hn : n + f * 36 ≤ N0), rec_52 m x3 x4 x5 x6 x7 = some (1, m') → AW K n 52 [(0, q_v (.ref b)), (1, q_r 0), (2, q_r 70), (3, q_i x3), (4, q_i x4), (5, q_i x5), (6, q_i x6), (7, q_i x7)] [] m) (hn : n + 36 + f * 36 ≤ N0) {m : Mem} {x3 : Int32} {x4 : Int32} {x6 : Int32} {x7 : Int32} {x9 : Int32} {x13 : Int32} (hF : B_L_law_834 N L xs rec_52 m x3 x4 x6 x7 x9 x13 = some (1, m')) : AW K (n + 35) 834 [(0, q_v (.ref b)), (1, q_r 0), (2, q_r 70), (3, q_i x3), (4, q_i x4), (6, q_i x6), (7, q_i x7), (9, q_i x9), (13, q_i x13)] [] m := by
  unfold B_L_law_834 at hF
  refine aw_iconst hK (1) rfl dL_law_834 ?_
  refine aw_goto hK 839 rfl dL_law_835 ?_
  refine aw_wd (n' := n + 35) (by omega) ?_
  refine aw_sub [0, 1, 2, 3, 4, 5, 6, 7, 8] (lv' := [(0, q_v (.ref b)), (1, q_r 0), (2, q_r 70), (3, q_i x3), (4, q_i x4), (6, q_i x6), (7, q_i x7), (9, q_i x9), (13, q_i x13)]) rfl ?_
  exact bk_L_law_839 hK hB hFl hL hR hrec_52 (by omega) hF
def B_L_law_820 (N L : Nat) (xs : Nat → Int32) (rec_52 : Mem → Int32 → Int32 → Int32 → Int32 → Int32 → Option (Int32 × Mem)) (m : Mem) (x3 : Int32) (x4 : Int32) (x6 : Int32) (x7 : Int32) (x9 : Int32) (x13 : Int32) : Option (Int32 × Mem) :=
  if x13 < (0 : Int32) then (
    B_L_law_834 N L xs rec_52 m x3 x4 x6 x7 x9 x13
  ) else (
    cal (F_L_isTrimmed N m x13) fun r23 m22 =>
    if r23 = (0 : Int32) then (
      B_L_law_838 N L xs rec_52 m22 x3 x4 x6 x7 x9 x13
    ) else (
      B_L_law_834 N L xs rec_52 m22 x3 x4 x6 x7 x9 x13
    )
  )
set_option maxRecDepth 100000 in
set_option maxHeartbeats 40000000 in
theorem bk_L_law_820 {N b L : Nat} {xs : Nat → Int32} {K : KT} {N0 : Nat} {m' : Mem} {f : Nat} {rec_52 : Mem → Int32 → Int32 → Int32 → Int32 → Int32 → Option (Int32 × Mem)} {n : Nat} (hK : KOK K cL_law 19 RL wsL_law 11 N0 248) (hB : KB K) (hFl : KFl K) (hL : KL K b L xs) (hR : KLr K N0) (hrec_52 : ∀ {n : Nat} {m : Mem} {x3 : Int32} {x4 : Int32} {x5 : Int32} {x6 : Int32} {x7 : Int32} (hn : n + f * 36 ≤ N0), rec_52 m x3 x4 x5 x6 x7 = some (1, m') → AW K n 52 [(0, q_v (.ref b)), (1, q_r 0), (2, q_r 70), (3, q_i x3), (4, q_i x4), (5, q_i x5), (6, q_i x6), (7, q_i x7)] [] m) (hn : n + 36 + f * 36 ≤ N0) {m : Mem} {x3 : Int32} {x4 : Int32} {x6 : Int32} {x7 : Int32} {x9 : Int32} {x13 : Int32} (hF : B_L_law_820 N L xs rec_52 m x3 x4 x6 x7 x9 x13 = some (1, m')) : AW K (n + 35) 820 [(0, q_v (.ref b)), (1, q_r 0), (2, q_r 70), (3, q_i x3), (4, q_i x4), (6, q_i x6), (7, q_i x7), (9, q_i x9), (13, q_i x13)] [] m := by
  unfold B_L_law_820 at hF
  refine aw_iload hK 8 rfl dL_law_820 ?_
  refine aw_if_lt hK 834 rfl dL_law_822 (fun hc => ?_) (fun hc => ?_)
  · have hF := if_t hF hc
    refine aw_wd (n' := n + 35) (by omega) ?_
    refine aw_sub [0, 1, 2, 3, 4, 5, 6, 7, 8] (lv' := [(0, q_v (.ref b)), (1, q_r 0), (2, q_r 70), (3, q_i x3), (4, q_i x4), (6, q_i x6), (7, q_i x7), (9, q_i x9), (13, q_i x13)]) rfl ?_
    exact bk_L_law_834 hK hB hFl hL hR hrec_52 (by omega) hF
  · have hF := if_f hF hc
    refine aw_aload_n hK 1 rfl dL_law_825 ?_
    refine aw_iload hK 8 rfl dL_law_826 ?_
    obtain ⟨r23, m22, h21, hF⟩ := cal_some hF
    refine aw_csP hK (as := [q_r 0, q_i x13]) (tr_L_isTrimmed h21) gL_law_L_isTrimmed rfl (na := 2) (by decide +kernel) rfl ⟨by decide, by decide⟩ (by omega) (Nat.le_of_ble_eq_true rfl) dL_law_828 ?_
    refine aw_if_eq hK 838 rfl dL_law_831 (fun hc => ?_) (fun hc => ?_)
    · have hF := if_t hF hc
      refine aw_wd (n' := n + 35) (by omega) ?_
      refine aw_sub [0, 1, 2, 3, 4, 5, 6, 7, 8] (lv' := [(0, q_v (.ref b)), (1, q_r 0), (2, q_r 70), (3, q_i x3), (4, q_i x4), (6, q_i x6), (7, q_i x7), (9, q_i x9), (13, q_i x13)]) rfl ?_
      exact bk_L_law_838 hK hB hFl hL hR hrec_52 (by omega) hF
    · have hF := if_f hF hc
      refine aw_wd (n' := n + 35) (by omega) ?_
      refine aw_sub [0, 1, 2, 3, 4, 5, 6, 7, 8] (lv' := [(0, q_v (.ref b)), (1, q_r 0), (2, q_r 70), (3, q_i x3), (4, q_i x4), (6, q_i x6), (7, q_i x7), (9, q_i x9), (13, q_i x13)]) rfl ?_
      exact bk_L_law_834 hK hB hFl hL hR hrec_52 (by omega) hF
def B_L_law_796 (N L : Nat) (xs : Nat → Int32) (rec_52 : Mem → Int32 → Int32 → Int32 → Int32 → Int32 → Option (Int32 × Mem)) (m : Mem) (x3 : Int32) (x4 : Int32) (x5 : Int32) (x6 : Int32) (x7 : Int32) (x9 : Int32) (x13 : Int32) : Option (Int32 × Mem) :=
  if x5 = (0 : Int32) then (
    B_L_law_838 N L xs rec_52 m x3 x4 x6 x7 x9 x13
  ) else (
    if x13 = (-13 : Int32) then (
      B_L_law_820 N L xs rec_52 m x3 x4 x6 x7 x9 x13
    ) else (
      if x13 < (0 : Int32) then (
        B_L_law_838 N L xs rec_52 m x3 x4 x6 x7 x9 x13
      ) else (
        if (24 : Int32) ≤ x13 then (
          B_L_law_838 N L xs rec_52 m x3 x4 x6 x7 x9 x13
        ) else (
          B_L_law_820 N L xs rec_52 m x3 x4 x6 x7 x9 x13
        )
      )
    )
  )
set_option maxRecDepth 100000 in
set_option maxHeartbeats 40000000 in
theorem bk_L_law_796 {N b L : Nat} {xs : Nat → Int32} {K : KT} {N0 : Nat} {m' : Mem} {f : Nat} {rec_52 : Mem → Int32 → Int32 → Int32 → Int32 → Int32 → Option (Int32 × Mem)} {n : Nat} (hK : KOK K cL_law 19 RL wsL_law 11 N0 248) (hB : KB K) (hFl : KFl K) (hL : KL K b L xs) (hR : KLr K N0) (hrec_52 : ∀ {n : Nat} {m : Mem} {x3 : Int32} {x4 : Int32} {x5 : Int32} {x6 : Int32} {x7 : Int32} (hn : n + f * 36 ≤ N0), rec_52 m x3 x4 x5 x6 x7 = some (1, m') → AW K n 52 [(0, q_v (.ref b)), (1, q_r 0), (2, q_r 70), (3, q_i x3), (4, q_i x4), (5, q_i x5), (6, q_i x6), (7, q_i x7)] [] m) (hn : n + 36 + f * 36 ≤ N0) {m : Mem} {x3 : Int32} {x4 : Int32} {x5 : Int32} {x6 : Int32} {x7 : Int32} {x9 : Int32} {x13 : Int32} (hF : B_L_law_796 N L xs rec_52 m x3 x4 x5 x6 x7 x9 x13 = some (1, m')) : AW K (n + 35) 796 [(0, q_v (.ref b)), (1, q_r 0), (2, q_r 70), (3, q_i x3), (4, q_i x4), (5, q_i x5), (6, q_i x6), (7, q_i x7), (9, q_i x9), (13, q_i x13)] [] m := by
  unfold B_L_law_796 at hF
  refine aw_iload hK 5 rfl dL_law_796 ?_
  refine aw_if_eq hK 838 rfl dL_law_798 (fun hc => ?_) (fun hc => ?_)
  · have hF := if_t hF hc
    refine aw_wd (n' := n + 35) (by omega) ?_
    refine aw_sub [0, 1, 2, 3, 4, 6, 7, 8, 9] (lv' := [(0, q_v (.ref b)), (1, q_r 0), (2, q_r 70), (3, q_i x3), (4, q_i x4), (6, q_i x6), (7, q_i x7), (9, q_i x9), (13, q_i x13)]) rfl ?_
    exact bk_L_law_838 hK hB hFl hL hR hrec_52 (by omega) hF
  · have hF := if_f hF hc
    refine aw_iload hK 9 rfl dL_law_801 ?_
    refine aw_bipush hK (-13) rfl dL_law_803 ?_
    refine aw_icmp_eq hK 820 rfl dL_law_805 (fun hc => ?_) (fun hc => ?_)
    · have hF := if_t hF hc
      refine aw_wd (n' := n + 35) (by omega) ?_
      refine aw_sub [0, 1, 2, 3, 4, 6, 7, 8, 9] (lv' := [(0, q_v (.ref b)), (1, q_r 0), (2, q_r 70), (3, q_i x3), (4, q_i x4), (6, q_i x6), (7, q_i x7), (9, q_i x9), (13, q_i x13)]) rfl ?_
      exact bk_L_law_820 hK hB hFl hL hR hrec_52 (by omega) hF
    · have hF := if_f hF hc
      refine aw_iload hK 9 rfl dL_law_808 ?_
      refine aw_if_lt hK 838 rfl dL_law_810 (fun hc => ?_) (fun hc => ?_)
      · have hF := if_t hF hc
        refine aw_wd (n' := n + 35) (by omega) ?_
        refine aw_sub [0, 1, 2, 3, 4, 6, 7, 8, 9] (lv' := [(0, q_v (.ref b)), (1, q_r 0), (2, q_r 70), (3, q_i x3), (4, q_i x4), (6, q_i x6), (7, q_i x7), (9, q_i x9), (13, q_i x13)]) rfl ?_
        exact bk_L_law_838 hK hB hFl hL hR hrec_52 (by omega) hF
      · have hF := if_f hF hc
        refine aw_iload hK 9 rfl dL_law_813 ?_
        refine aw_bipush hK (24) rfl dL_law_815 ?_
        refine aw_icmp_ge hK 838 rfl dL_law_817 (fun hc => ?_) (fun hc => ?_)
        · have hF := if_t hF hc
          refine aw_wd (n' := n + 35) (by omega) ?_
          refine aw_sub [0, 1, 2, 3, 4, 6, 7, 8, 9] (lv' := [(0, q_v (.ref b)), (1, q_r 0), (2, q_r 70), (3, q_i x3), (4, q_i x4), (6, q_i x6), (7, q_i x7), (9, q_i x9), (13, q_i x13)]) rfl ?_
          exact bk_L_law_838 hK hB hFl hL hR hrec_52 (by omega) hF
        · have hF := if_f hF hc
          refine aw_wd (n' := n + 35) (by omega) ?_
          refine aw_sub [0, 1, 2, 3, 4, 6, 7, 8, 9] (lv' := [(0, q_v (.ref b)), (1, q_r 0), (2, q_r 70), (3, q_i x3), (4, q_i x4), (6, q_i x6), (7, q_i x7), (9, q_i x9), (13, q_i x13)]) rfl ?_
          exact bk_L_law_820 hK hB hFl hL hR hrec_52 (by omega) hF
def B_L_law_788 (N L : Nat) (xs : Nat → Int32) (rec_52 : Mem → Int32 → Int32 → Int32 → Int32 → Int32 → Option (Int32 × Mem)) (rec_740 : Mem → Int32 → Int32 → Int32 → Int32 → Int32 → Int32 → Int32 → Int32 → Int32 → Int32 → Int32 → Int32 → Option (Int32 × Mem)) (m : Mem) (x3 : Int32) (x4 : Int32) (x6 : Int32) (x7 : Int32) (x9 : Int32) (x13 : Int32) (x14 : Int32) (x15 : Int32) (x16 : Int32) (x17 : Int32) (x18 : Int32) (s0 : Int32) : Option (Int32 × Mem) :=
  bnd (x18 + (1 : Int32)) fun y88 =>
  rec_740 m x3 x4 s0 x6 x7 x9 x13 x14 x15 x16 x17 y88
set_option maxRecDepth 100000 in
set_option maxHeartbeats 40000000 in
theorem bk_L_law_788 {N b L : Nat} {xs : Nat → Int32} {K : KT} {N0 : Nat} {m' : Mem} {f : Nat} {rec_52 : Mem → Int32 → Int32 → Int32 → Int32 → Int32 → Option (Int32 × Mem)} {rec_740 : Mem → Int32 → Int32 → Int32 → Int32 → Int32 → Int32 → Int32 → Int32 → Int32 → Int32 → Int32 → Int32 → Option (Int32 × Mem)} {n : Nat} (hK : KOK K cL_law 19 RL wsL_law 11 N0 248) (hB : KB K) (hFl : KFl K) (hL : KL K b L xs) (hR : KLr K N0) (hrec_52 : ∀ {n : Nat} {m : Mem} {x3 : Int32} {x4 : Int32} {x5 : Int32} {x6 : Int32} {x7 : Int32} (hn : n + f * 36 ≤ N0), rec_52 m x3 x4 x5 x6 x7 = some (1, m') → AW K n 52 [(0, q_v (.ref b)), (1, q_r 0), (2, q_r 70), (3, q_i x3), (4, q_i x4), (5, q_i x5), (6, q_i x6), (7, q_i x7)] [] m) (hrec_740 : ∀ {m : Mem} {x3 : Int32} {x4 : Int32} {x5 : Int32} {x6 : Int32} {x7 : Int32} {x9 : Int32} {x13 : Int32} {x14 : Int32} {x15 : Int32} {x16 : Int32} {x17 : Int32} {x18 : Int32}, rec_740 m x3 x4 x5 x6 x7 x9 x13 x14 x15 x16 x17 x18 = some (1, m') → AW K (n + 35) 740 [(0, q_v (.ref b)), (1, q_r 0), (2, q_r 70), (3, q_i x3), (4, q_i x4), (5, q_i x5), (6, q_i x6), (7, q_i x7), (9, q_i x9), (13, q_i x13), (14, q_i x14), (15, q_i x15), (16, q_i x16), (17, q_i x17), (18, q_i x18)] [] m) (hn : n + 36 + f * 36 ≤ N0) {m : Mem} {x3 : Int32} {x4 : Int32} {x6 : Int32} {x7 : Int32} {x9 : Int32} {x13 : Int32} {x14 : Int32} {x15 : Int32} {x16 : Int32} {x17 : Int32} {x18 : Int32} {s0 : Int32} (hF : B_L_law_788 N L xs rec_52 rec_740 m x3 x4 x6 x7 x9 x13 x14 x15 x16 x17 x18 s0 = some (1, m')) : AW K (n + 35) 788 [(0, q_v (.ref b)), (1, q_r 0), (2, q_r 70), (3, q_i x3), (4, q_i x4), (6, q_i x6), (7, q_i x7), (9, q_i x9), (13, q_i x13), (14, q_i x14), (15, q_i x15), (16, q_i x16), (17, q_i x17), (18, q_i x18)] [q_i s0] m := by
  unfold B_L_law_788 at hF
  refine aw_istore hK [(5, q_i s0), (0, q_v (.ref b)), (1, q_r 0), (2, q_r 70), (3, q_i x3), (4, q_i x4), (6, q_i x6), (7, q_i x7), (9, q_i x9), (13, q_i x13), (14, q_i x14), (15, q_i x15), (16, q_i x16), (17, q_i x17), (18, q_i x18)] (by decide) rfl dL_law_788 ?_
  obtain ⟨y88, hy88, hF⟩ := bnd_some hF
  refine aw_iinc hK (cz := 1) 14 [(18, q_i y88), (5, q_i s0), (0, q_v (.ref b)), (1, q_r 0), (2, q_r 70), (3, q_i x3), (4, q_i x4), (6, q_i x6), (7, q_i x7), (9, q_i x9), (13, q_i x13), (14, q_i x14), (15, q_i x15), (16, q_i x16), (17, q_i x17)] (by decide) rfl rfl hy88 rfl dL_law_790 ?_
  refine aw_goto hK 740 rfl dL_law_793 ?_
  refine aw_wd (n' := n + 35) (by omega) ?_
  refine aw_sub [2, 3, 4, 5, 6, 1, 7, 8, 9, 10, 11, 12, 13, 14, 0] (lv' := [(0, q_v (.ref b)), (1, q_r 0), (2, q_r 70), (3, q_i x3), (4, q_i x4), (5, q_i s0), (6, q_i x6), (7, q_i x7), (9, q_i x9), (13, q_i x13), (14, q_i x14), (15, q_i x15), (16, q_i x16), (17, q_i x17), (18, q_i y88)]) rfl ?_
  exact hrec_740 hF
def S_L_law_740 (N L : Nat) (xs : Nat → Int32) (rec_52 : Mem → Int32 → Int32 → Int32 → Int32 → Int32 → Option (Int32 × Mem)) (rec_740 : Mem → Int32 → Int32 → Int32 → Int32 → Int32 → Int32 → Int32 → Int32 → Int32 → Int32 → Int32 → Int32 → Option (Int32 × Mem)) (m : Mem) (x3 : Int32) (x4 : Int32) (x5 : Int32) (x6 : Int32) (x7 : Int32) (x9 : Int32) (x13 : Int32) (x14 : Int32) (x15 : Int32) (x16 : Int32) (x17 : Int32) (x18 : Int32) : Option (Int32 × Mem) :=
  if x3 < x18 then (
    B_L_law_796 N L xs rec_52 m x3 x4 x5 x6 x7 x9 x13
  ) else (
    if x5 = (0 : Int32) then (
      B_L_law_796 N L xs rec_52 m x3 x4 x5 x6 x7 x9 x13
    ) else (
      if x13 < (0 : Int32) then (
        B_L_law_796 N L xs rec_52 m x3 x4 x5 x6 x7 x9 x13
      ) else (
        calL (F_X7_answer N m x13 (0 : Int32) (0 : Int32) x18) fun r84 m83 =>
        calL (F_X7_ruled N m83 x14 x15 x16 x17 x18) fun r87 m86 =>
        if r84 = r87 then (
          B_L_law_788 N L xs rec_52 rec_740 m86 x3 x4 x6 x7 x9 x13 x14 x15 x16 x17 x18 (1 : Int32)
        ) else (
          B_L_law_788 N L xs rec_52 rec_740 m86 x3 x4 x6 x7 x9 x13 x14 x15 x16 x17 x18 (0 : Int32)
        )
      )
    )
  )
def L_L_law_740 (N L : Nat) (xs : Nat → Int32) (rec_52 : Mem → Int32 → Int32 → Int32 → Int32 → Int32 → Option (Int32 × Mem)) : Nat → Mem → Int32 → Int32 → Int32 → Int32 → Int32 → Int32 → Int32 → Int32 → Int32 → Int32 → Int32 → Int32 → Option (Int32 × Mem)
  | 0 => fun _ _ _ _ _ _ _ _ _ _ _ _ _ => none
  | f + 1 => S_L_law_740 N L xs rec_52 (L_L_law_740 N L xs rec_52 f)
set_option maxRecDepth 100000 in
set_option maxHeartbeats 40000000 in
theorem lp_L_law_740 {N b L : Nat} {xs : Nat → Int32} {K : KT} {N0 : Nat} {m' : Mem} {f : Nat} {rec_52 : Mem → Int32 → Int32 → Int32 → Int32 → Int32 → Option (Int32 × Mem)} (hK : KOK K cL_law 19 RL wsL_law 11 N0 248) (hB : KB K) (hFl : KFl K) (hL : KL K b L xs) (hR : KLr K N0) (hrec_52 : ∀ {n : Nat} {m : Mem} {x3 : Int32} {x4 : Int32} {x5 : Int32} {x6 : Int32} {x7 : Int32} (hn : n + f * 36 ≤ N0), rec_52 m x3 x4 x5 x6 x7 = some (1, m') → AW K n 52 [(0, q_v (.ref b)), (1, q_r 0), (2, q_r 70), (3, q_i x3), (4, q_i x4), (5, q_i x5), (6, q_i x6), (7, q_i x7)] [] m) {n : Nat} (hn : n + 36 + f * 36 ≤ N0) : ∀ (g : Nat) {m : Mem} {x3 : Int32} {x4 : Int32} {x5 : Int32} {x6 : Int32} {x7 : Int32} {x9 : Int32} {x13 : Int32} {x14 : Int32} {x15 : Int32} {x16 : Int32} {x17 : Int32} {x18 : Int32}, L_L_law_740 N L xs rec_52 g m x3 x4 x5 x6 x7 x9 x13 x14 x15 x16 x17 x18 = some (1, m') → AW K (n + 35) 740 [(0, q_v (.ref b)), (1, q_r 0), (2, q_r 70), (3, q_i x3), (4, q_i x4), (5, q_i x5), (6, q_i x6), (7, q_i x7), (9, q_i x9), (13, q_i x13), (14, q_i x14), (15, q_i x15), (16, q_i x16), (17, q_i x17), (18, q_i x18)] [] m := by
  intro g
  induction g with
  | zero => intro m x3 x4 x5 x6 x7 x9 x13 x14 x15 x16 x17 x18 hF; cases hF
  | succ g hrec_740 =>
    intro m x3 x4 x5 x6 x7 x9 x13 x14 x15 x16 x17 x18 hF
    have hF : S_L_law_740 N L xs rec_52 (L_L_law_740 N L xs rec_52 g) m x3 x4 x5 x6 x7 x9 x13 x14 x15 x16 x17 x18 = some (1, m') := hF
    unfold S_L_law_740 at hF
    refine aw_iload hK 14 rfl dL_law_740 ?_
    refine aw_iload_n hK 3 rfl dL_law_742 ?_
    refine aw_icmp_gt hK 796 rfl dL_law_743 (fun hc => ?_) (fun hc => ?_)
    · have hF := if_t hF hc
      refine aw_wd (n' := n + 35) (by omega) ?_
      refine aw_sub [0, 1, 2, 3, 4, 5, 6, 7, 8, 9] (lv' := [(0, q_v (.ref b)), (1, q_r 0), (2, q_r 70), (3, q_i x3), (4, q_i x4), (5, q_i x5), (6, q_i x6), (7, q_i x7), (9, q_i x9), (13, q_i x13)]) rfl ?_
      exact bk_L_law_796 hK hB hFl hL hR hrec_52 (by omega) hF
    · have hF := if_f hF hc
      refine aw_iload hK 5 rfl dL_law_746 ?_
      refine aw_if_eq hK 796 rfl dL_law_748 (fun hc => ?_) (fun hc => ?_)
      · have hF := if_t hF hc
        refine aw_wd (n' := n + 35) (by omega) ?_
        refine aw_sub [0, 1, 2, 3, 4, 5, 6, 7, 8, 9] (lv' := [(0, q_v (.ref b)), (1, q_r 0), (2, q_r 70), (3, q_i x3), (4, q_i x4), (5, q_i x5), (6, q_i x6), (7, q_i x7), (9, q_i x9), (13, q_i x13)]) rfl ?_
        exact bk_L_law_796 hK hB hFl hL hR hrec_52 (by omega) hF
      · have hF := if_f hF hc
        refine aw_iload hK 9 rfl dL_law_751 ?_
        refine aw_if_lt hK 796 rfl dL_law_753 (fun hc => ?_) (fun hc => ?_)
        · have hF := if_t hF hc
          refine aw_wd (n' := n + 35) (by omega) ?_
          refine aw_sub [0, 1, 2, 3, 4, 5, 6, 7, 8, 9] (lv' := [(0, q_v (.ref b)), (1, q_r 0), (2, q_r 70), (3, q_i x3), (4, q_i x4), (5, q_i x5), (6, q_i x6), (7, q_i x7), (9, q_i x9), (13, q_i x13)]) rfl ?_
          exact bk_L_law_796 hK hB hFl hL hR hrec_52 (by omega) hF
        · have hF := if_f hF hc
          refine aw_aload_n hK 1 rfl dL_law_756 ?_
          refine aw_iload hK 9 rfl dL_law_757 ?_
          refine aw_iconst hK (0) rfl dL_law_759 ?_
          refine aw_iconst hK (0) rfl dL_law_760 ?_
          refine aw_iload hK 14 rfl dL_law_761 ?_
          obtain ⟨r84, m83, h82, hF⟩ := calL_some hF
          refine aw_cv hK 7 (as := [q_i x13, q_i (0 : Int32), q_i (0 : Int32), q_i x18]) (trN_X7_answer h82) gL_law_X7_answer rfl rfl rfl (by decide) (na := 4) (by decide +kernel) rfl ⟨by decide, by decide⟩ (by omega) (Nat.le_of_ble_eq_true rfl) dL_law_763 ?_
          refine aw_aload_n hK 1 rfl dL_law_766 ?_
          refine aw_iload hK 10 rfl dL_law_767 ?_
          refine aw_iload hK 11 rfl dL_law_769 ?_
          refine aw_iload hK 12 rfl dL_law_771 ?_
          refine aw_iload hK 13 rfl dL_law_773 ?_
          refine aw_iload hK 14 rfl dL_law_775 ?_
          obtain ⟨r87, m86, h85, hF⟩ := calL_some hF
          refine aw_cv hK 7 (as := [q_i x14, q_i x15, q_i x16, q_i x17, q_i x18]) (trN_X7_ruled h85) gL_law_X7_ruled rfl rfl rfl (by decide) (na := 5) (by decide +kernel) rfl ⟨by decide, by decide⟩ (by omega) (Nat.le_of_ble_eq_true rfl) dL_law_777 ?_
          refine aw_icmp_ne hK 787 rfl dL_law_780 (fun hc => ?_) (fun hc => ?_)
          · have hF := if_f hF hc
            refine aw_iconst hK (0) rfl dL_law_787 ?_
            refine aw_wd (n' := n + 35) (by omega) ?_
            refine aw_sub [0, 1, 2, 3, 4, 6, 7, 8, 9, 10, 11, 12, 13, 14] (lv' := [(0, q_v (.ref b)), (1, q_r 0), (2, q_r 70), (3, q_i x3), (4, q_i x4), (6, q_i x6), (7, q_i x7), (9, q_i x9), (13, q_i x13), (14, q_i x14), (15, q_i x15), (16, q_i x16), (17, q_i x17), (18, q_i x18)]) rfl ?_
            exact bk_L_law_788 hK hB hFl hL hR hrec_52 hrec_740 (by omega) hF
          · have hF := if_t hF hc
            refine aw_iconst hK (1) rfl dL_law_783 ?_
            refine aw_goto hK 788 rfl dL_law_784 ?_
            refine aw_wd (n' := n + 35) (by omega) ?_
            refine aw_sub [0, 1, 2, 3, 4, 6, 7, 8, 9, 10, 11, 12, 13, 14] (lv' := [(0, q_v (.ref b)), (1, q_r 0), (2, q_r 70), (3, q_i x3), (4, q_i x4), (6, q_i x6), (7, q_i x7), (9, q_i x9), (13, q_i x13), (14, q_i x14), (15, q_i x15), (16, q_i x16), (17, q_i x17), (18, q_i x18)]) rfl ?_
            exact bk_L_law_788 hK hB hFl hL hR hrec_52 hrec_740 (by omega) hF
def B_L_law_735 (N L : Nat) (xs : Nat → Int32) (rec_52 : Mem → Int32 → Int32 → Int32 → Int32 → Int32 → Option (Int32 × Mem)) (m : Mem) (x3 : Int32) (x4 : Int32) (x6 : Int32) (x7 : Int32) (x9 : Int32) (x13 : Int32) (x14 : Int32) (x15 : Int32) (x16 : Int32) (x17 : Int32) (s0 : Int32) : Option (Int32 × Mem) :=
  L_L_law_740 N L xs rec_52 N m x3 x4 s0 x6 x7 x9 x13 x14 x15 x16 x17 (0 : Int32)
set_option maxRecDepth 100000 in
set_option maxHeartbeats 40000000 in
theorem bk_L_law_735 {N b L : Nat} {xs : Nat → Int32} {K : KT} {N0 : Nat} {m' : Mem} {f : Nat} {rec_52 : Mem → Int32 → Int32 → Int32 → Int32 → Int32 → Option (Int32 × Mem)} {n : Nat} (hK : KOK K cL_law 19 RL wsL_law 11 N0 248) (hB : KB K) (hFl : KFl K) (hL : KL K b L xs) (hR : KLr K N0) (hrec_52 : ∀ {n : Nat} {m : Mem} {x3 : Int32} {x4 : Int32} {x5 : Int32} {x6 : Int32} {x7 : Int32} (hn : n + f * 36 ≤ N0), rec_52 m x3 x4 x5 x6 x7 = some (1, m') → AW K n 52 [(0, q_v (.ref b)), (1, q_r 0), (2, q_r 70), (3, q_i x3), (4, q_i x4), (5, q_i x5), (6, q_i x6), (7, q_i x7)] [] m) (hn : n + 36 + f * 36 ≤ N0) {m : Mem} {x3 : Int32} {x4 : Int32} {x6 : Int32} {x7 : Int32} {x9 : Int32} {x13 : Int32} {x14 : Int32} {x15 : Int32} {x16 : Int32} {x17 : Int32} {s0 : Int32} (hF : B_L_law_735 N L xs rec_52 m x3 x4 x6 x7 x9 x13 x14 x15 x16 x17 s0 = some (1, m')) : AW K (n + 35) 735 [(0, q_v (.ref b)), (1, q_r 0), (2, q_r 70), (3, q_i x3), (4, q_i x4), (6, q_i x6), (7, q_i x7), (9, q_i x9), (13, q_i x13), (14, q_i x14), (15, q_i x15), (16, q_i x16), (17, q_i x17)] [q_i s0] m := by
  unfold B_L_law_735 at hF
  refine aw_istore hK [(5, q_i s0), (0, q_v (.ref b)), (1, q_r 0), (2, q_r 70), (3, q_i x3), (4, q_i x4), (6, q_i x6), (7, q_i x7), (9, q_i x9), (13, q_i x13), (14, q_i x14), (15, q_i x15), (16, q_i x16), (17, q_i x17)] (by decide) rfl dL_law_735 ?_
  refine aw_iconst hK (0) rfl dL_law_737 ?_
  refine aw_istore hK [(18, q_i (0 : Int32)), (5, q_i s0), (0, q_v (.ref b)), (1, q_r 0), (2, q_r 70), (3, q_i x3), (4, q_i x4), (6, q_i x6), (7, q_i x7), (9, q_i x9), (13, q_i x13), (14, q_i x14), (15, q_i x15), (16, q_i x16), (17, q_i x17)] (by decide) rfl dL_law_738 ?_
  refine aw_wd (n' := n + 35) (by omega) ?_
  refine aw_sub [2, 3, 4, 5, 6, 1, 7, 8, 9, 10, 11, 12, 13, 14, 0] (lv' := [(0, q_v (.ref b)), (1, q_r 0), (2, q_r 70), (3, q_i x3), (4, q_i x4), (5, q_i s0), (6, q_i x6), (7, q_i x7), (9, q_i x9), (13, q_i x13), (14, q_i x14), (15, q_i x15), (16, q_i x16), (17, q_i x17), (18, q_i (0 : Int32))]) rfl ?_
  exact lp_L_law_740 hK hB hFl hL hR hrec_52  (by omega) N hF
def B_L_law_734 (N L : Nat) (xs : Nat → Int32) (rec_52 : Mem → Int32 → Int32 → Int32 → Int32 → Int32 → Option (Int32 × Mem)) (m : Mem) (x3 : Int32) (x4 : Int32) (x6 : Int32) (x7 : Int32) (x9 : Int32) (x13 : Int32) (x14 : Int32) (x15 : Int32) (x16 : Int32) (x17 : Int32) : Option (Int32 × Mem) :=
  B_L_law_735 N L xs rec_52 m x3 x4 x6 x7 x9 x13 x14 x15 x16 x17 (0 : Int32)
set_option maxRecDepth 100000 in
set_option maxHeartbeats 40000000 in
theorem bk_L_law_734 {N b L : Nat} {xs : Nat → Int32} {K : KT} {N0 : Nat} {m' : Mem} {f : Nat} {rec_52 : Mem → Int32 → Int32 → Int32 → Int32 → Int32 → Option (Int32 × Mem)} {n : Nat} (hK : KOK K cL_law 19 RL wsL_law 11 N0 248) (hB : KB K) (hFl : KFl K) (hL : KL K b L xs) (hR : KLr K N0) (hrec_52 : ∀ {n : Nat} {m : Mem} {x3 : Int32} {x4 : Int32} {x5 : Int32} {x6 : Int32} {x7 : Int32} (hn : n + f * 36 ≤ N0), rec_52 m x3 x4 x5 x6 x7 = some (1, m') → AW K n 52 [(0, q_v (.ref b)), (1, q_r 0), (2, q_r 70), (3, q_i x3), (4, q_i x4), (5, q_i x5), (6, q_i x6), (7, q_i x7)] [] m) (hn : n + 36 + f * 36 ≤ N0) {m : Mem} {x3 : Int32} {x4 : Int32} {x6 : Int32} {x7 : Int32} {x9 : Int32} {x13 : Int32} {x14 : Int32} {x15 : Int32} {x16 : Int32} {x17 : Int32} (hF : B_L_law_734 N L xs rec_52 m x3 x4 x6 x7 x9 x13 x14 x15 x16 x17 = some (1, m')) : AW K (n + 35) 734 [(0, q_v (.ref b)), (1, q_r 0), (2, q_r 70), (3, q_i x3), (4, q_i x4), (6, q_i x6), (7, q_i x7), (9, q_i x9), (13, q_i x13), (14, q_i x14), (15, q_i x15), (16, q_i x16), (17, q_i x17)] [] m := by
  unfold B_L_law_734 at hF
  refine aw_iconst hK (0) rfl dL_law_734 ?_
  refine aw_wd (n' := n + 35) (by omega) ?_
  refine aw_sub [0, 1, 2, 3, 4, 5, 6, 7, 8, 9, 10, 11, 12] (lv' := [(0, q_v (.ref b)), (1, q_r 0), (2, q_r 70), (3, q_i x3), (4, q_i x4), (6, q_i x6), (7, q_i x7), (9, q_i x9), (13, q_i x13), (14, q_i x14), (15, q_i x15), (16, q_i x16), (17, q_i x17)]) rfl ?_
  exact bk_L_law_735 hK hB hFl hL hR hrec_52 (by omega) hF
def B_L_law_730 (N L : Nat) (xs : Nat → Int32) (rec_52 : Mem → Int32 → Int32 → Int32 → Int32 → Int32 → Option (Int32 × Mem)) (m : Mem) (x3 : Int32) (x4 : Int32) (x6 : Int32) (x7 : Int32) (x9 : Int32) (x13 : Int32) (x14 : Int32) (x15 : Int32) (x16 : Int32) (x17 : Int32) : Option (Int32 × Mem) :=
  B_L_law_735 N L xs rec_52 m x3 x4 x6 x7 x9 x13 x14 x15 x16 x17 (1 : Int32)
set_option maxRecDepth 100000 in
set_option maxHeartbeats 40000000 in
theorem bk_L_law_730 {N b L : Nat} {xs : Nat → Int32} {K : KT} {N0 : Nat} {m' : Mem} {f : Nat} {rec_52 : Mem → Int32 → Int32 → Int32 → Int32 → Int32 → Option (Int32 × Mem)} {n : Nat} (hK : KOK K cL_law 19 RL wsL_law 11 N0 248) (hB : KB K) (hFl : KFl K) (hL : KL K b L xs) (hR : KLr K N0) (hrec_52 : ∀ {n : Nat} {m : Mem} {x3 : Int32} {x4 : Int32} {x5 : Int32} {x6 : Int32} {x7 : Int32} (hn : n + f * 36 ≤ N0), rec_52 m x3 x4 x5 x6 x7 = some (1, m') → AW K n 52 [(0, q_v (.ref b)), (1, q_r 0), (2, q_r 70), (3, q_i x3), (4, q_i x4), (5, q_i x5), (6, q_i x6), (7, q_i x7)] [] m) (hn : n + 36 + f * 36 ≤ N0) {m : Mem} {x3 : Int32} {x4 : Int32} {x6 : Int32} {x7 : Int32} {x9 : Int32} {x13 : Int32} {x14 : Int32} {x15 : Int32} {x16 : Int32} {x17 : Int32} (hF : B_L_law_730 N L xs rec_52 m x3 x4 x6 x7 x9 x13 x14 x15 x16 x17 = some (1, m')) : AW K (n + 35) 730 [(0, q_v (.ref b)), (1, q_r 0), (2, q_r 70), (3, q_i x3), (4, q_i x4), (6, q_i x6), (7, q_i x7), (9, q_i x9), (13, q_i x13), (14, q_i x14), (15, q_i x15), (16, q_i x16), (17, q_i x17)] [] m := by
  unfold B_L_law_730 at hF
  refine aw_iconst hK (1) rfl dL_law_730 ?_
  refine aw_goto hK 735 rfl dL_law_731 ?_
  refine aw_wd (n' := n + 35) (by omega) ?_
  refine aw_sub [0, 1, 2, 3, 4, 5, 6, 7, 8, 9, 10, 11, 12] (lv' := [(0, q_v (.ref b)), (1, q_r 0), (2, q_r 70), (3, q_i x3), (4, q_i x4), (6, q_i x6), (7, q_i x7), (9, q_i x9), (13, q_i x13), (14, q_i x14), (15, q_i x15), (16, q_i x16), (17, q_i x17)]) rfl ?_
  exact bk_L_law_735 hK hB hFl hL hR hrec_52 (by omega) hF
def B_L_law_718 (N L : Nat) (xs : Nat → Int32) (rec_52 : Mem → Int32 → Int32 → Int32 → Int32 → Int32 → Option (Int32 × Mem)) (m : Mem) (x3 : Int32) (x4 : Int32) (x6 : Int32) (x7 : Int32) (x9 : Int32) (x13 : Int32) (x14 : Int32) (x15 : Int32) (x16 : Int32) (x17 : Int32) : Option (Int32 × Mem) :=
  if x17 < (0 : Int32) then (
    B_L_law_730 N L xs rec_52 m x3 x4 x6 x7 x9 x13 x14 x15 x16 x17
  ) else (
    if x17 = x14 then (
      B_L_law_730 N L xs rec_52 m x3 x4 x6 x7 x9 x13 x14 x15 x16 x17
    ) else (
      B_L_law_734 N L xs rec_52 m x3 x4 x6 x7 x9 x13 x14 x15 x16 x17
    )
  )
set_option maxRecDepth 100000 in
set_option maxHeartbeats 40000000 in
theorem bk_L_law_718 {N b L : Nat} {xs : Nat → Int32} {K : KT} {N0 : Nat} {m' : Mem} {f : Nat} {rec_52 : Mem → Int32 → Int32 → Int32 → Int32 → Int32 → Option (Int32 × Mem)} {n : Nat} (hK : KOK K cL_law 19 RL wsL_law 11 N0 248) (hB : KB K) (hFl : KFl K) (hL : KL K b L xs) (hR : KLr K N0) (hrec_52 : ∀ {n : Nat} {m : Mem} {x3 : Int32} {x4 : Int32} {x5 : Int32} {x6 : Int32} {x7 : Int32} (hn : n + f * 36 ≤ N0), rec_52 m x3 x4 x5 x6 x7 = some (1, m') → AW K n 52 [(0, q_v (.ref b)), (1, q_r 0), (2, q_r 70), (3, q_i x3), (4, q_i x4), (5, q_i x5), (6, q_i x6), (7, q_i x7)] [] m) (hn : n + 36 + f * 36 ≤ N0) {m : Mem} {x3 : Int32} {x4 : Int32} {x6 : Int32} {x7 : Int32} {x9 : Int32} {x13 : Int32} {x14 : Int32} {x15 : Int32} {x16 : Int32} {x17 : Int32} (hF : B_L_law_718 N L xs rec_52 m x3 x4 x6 x7 x9 x13 x14 x15 x16 x17 = some (1, m')) : AW K (n + 35) 718 [(0, q_v (.ref b)), (1, q_r 0), (2, q_r 70), (3, q_i x3), (4, q_i x4), (6, q_i x6), (7, q_i x7), (9, q_i x9), (13, q_i x13), (14, q_i x14), (15, q_i x15), (16, q_i x16), (17, q_i x17)] [] m := by
  unfold B_L_law_718 at hF
  refine aw_iload hK 12 rfl dL_law_718 ?_
  refine aw_if_lt hK 730 rfl dL_law_720 (fun hc => ?_) (fun hc => ?_)
  · have hF := if_t hF hc
    refine aw_wd (n' := n + 35) (by omega) ?_
    refine aw_sub [0, 1, 2, 3, 4, 5, 6, 7, 8, 9, 10, 11, 12] (lv' := [(0, q_v (.ref b)), (1, q_r 0), (2, q_r 70), (3, q_i x3), (4, q_i x4), (6, q_i x6), (7, q_i x7), (9, q_i x9), (13, q_i x13), (14, q_i x14), (15, q_i x15), (16, q_i x16), (17, q_i x17)]) rfl ?_
    exact bk_L_law_730 hK hB hFl hL hR hrec_52 (by omega) hF
  · have hF := if_f hF hc
    refine aw_iload hK 12 rfl dL_law_723 ?_
    refine aw_iload hK 9 rfl dL_law_725 ?_
    refine aw_icmp_ne hK 734 rfl dL_law_727 (fun hc => ?_) (fun hc => ?_)
    · have hF := if_f hF hc
      refine aw_wd (n' := n + 35) (by omega) ?_
      refine aw_sub [0, 1, 2, 3, 4, 5, 6, 7, 8, 9, 10, 11, 12] (lv' := [(0, q_v (.ref b)), (1, q_r 0), (2, q_r 70), (3, q_i x3), (4, q_i x4), (6, q_i x6), (7, q_i x7), (9, q_i x9), (13, q_i x13), (14, q_i x14), (15, q_i x15), (16, q_i x16), (17, q_i x17)]) rfl ?_
      exact bk_L_law_734 hK hB hFl hL hR hrec_52 (by omega) hF
    · have hF := if_t hF hc
      refine aw_wd (n' := n + 35) (by omega) ?_
      refine aw_sub [0, 1, 2, 3, 4, 5, 6, 7, 8, 9, 10, 11, 12] (lv' := [(0, q_v (.ref b)), (1, q_r 0), (2, q_r 70), (3, q_i x3), (4, q_i x4), (6, q_i x6), (7, q_i x7), (9, q_i x9), (13, q_i x13), (14, q_i x14), (15, q_i x15), (16, q_i x16), (17, q_i x17)]) rfl ?_
      exact bk_L_law_730 hK hB hFl hL hR hrec_52 (by omega) hF
def B_L_law_647 (N L : Nat) (xs : Nat → Int32) (rec_52 : Mem → Int32 → Int32 → Int32 → Int32 → Int32 → Option (Int32 × Mem)) (m : Mem) (x3 : Int32) (x4 : Int32) (x6 : Int32) (x7 : Int32) (x9 : Int32) (x14 : Int32) (s0 : Int32) : Option (Int32 × Mem) :=
  bnd ((q_rem (q_shr x9 (5 : Int32)) (4 : Int32)) - (1 : Int32)) fun y77 =>
  bnd ((q_rem (q_shr x9 (7 : Int32)) (4 : Int32)) - (1 : Int32)) fun y78 =>
  cal (F_L_on N m (11 : Int32) x14 s0 y77 y78 (0 : Int32)) fun r81 m80 =>
  if (0 : Int32) ≤ r81 then (
    B_L_law_730 N L xs rec_52 m80 x3 x4 x6 x7 x9 r81 x14 s0 y77 y78
  ) else (
    if x4 = (24 : Int32) then (
      B_L_law_730 N L xs rec_52 m80 x3 x4 x6 x7 x9 r81 x14 s0 y77 y78
    ) else (
      if s0 = (8 : Int32) then (
        if y77 < (0 : Int32) then (
          B_L_law_718 N L xs rec_52 m80 x3 x4 x6 x7 x9 r81 x14 s0 y77 y78
        ) else (
          if y77 = x14 then (
            B_L_law_718 N L xs rec_52 m80 x3 x4 x6 x7 x9 r81 x14 s0 y77 y78
          ) else (
            B_L_law_734 N L xs rec_52 m80 x3 x4 x6 x7 x9 r81 x14 s0 y77 y78
          )
        )
      ) else (
        B_L_law_734 N L xs rec_52 m80 x3 x4 x6 x7 x9 r81 x14 s0 y77 y78
      )
    )
  )
set_option maxRecDepth 100000 in
set_option maxHeartbeats 40000000 in
theorem bk_L_law_647 {N b L : Nat} {xs : Nat → Int32} {K : KT} {N0 : Nat} {m' : Mem} {f : Nat} {rec_52 : Mem → Int32 → Int32 → Int32 → Int32 → Int32 → Option (Int32 × Mem)} {n : Nat} (hK : KOK K cL_law 19 RL wsL_law 11 N0 248) (hB : KB K) (hFl : KFl K) (hL : KL K b L xs) (hR : KLr K N0) (hrec_52 : ∀ {n : Nat} {m : Mem} {x3 : Int32} {x4 : Int32} {x5 : Int32} {x6 : Int32} {x7 : Int32} (hn : n + f * 36 ≤ N0), rec_52 m x3 x4 x5 x6 x7 = some (1, m') → AW K n 52 [(0, q_v (.ref b)), (1, q_r 0), (2, q_r 70), (3, q_i x3), (4, q_i x4), (5, q_i x5), (6, q_i x6), (7, q_i x7)] [] m) (hn : n + 36 + f * 36 ≤ N0) {m : Mem} {x3 : Int32} {x4 : Int32} {x6 : Int32} {x7 : Int32} {x9 : Int32} {x14 : Int32} {s0 : Int32} (hF : B_L_law_647 N L xs rec_52 m x3 x4 x6 x7 x9 x14 s0 = some (1, m')) : AW K (n + 28) 647 [(0, q_v (.ref b)), (1, q_r 0), (2, q_r 70), (3, q_i x3), (4, q_i x4), (6, q_i x6), (7, q_i x7), (9, q_i x9), (14, q_i x14)] [q_i s0] m := by
  unfold B_L_law_647 at hF
  refine aw_istore hK [(15, q_i s0), (0, q_v (.ref b)), (1, q_r 0), (2, q_r 70), (3, q_i x3), (4, q_i x4), (6, q_i x6), (7, q_i x7), (9, q_i x9), (14, q_i x14)] (by decide) rfl dL_law_647 ?_
  refine aw_iload hK 8 rfl dL_law_649 ?_
  refine aw_iconst hK (5) rfl dL_law_651 ?_
  refine aw_ishr hK dL_law_652 ?_
  refine aw_iconst hK (4) rfl dL_law_653 ?_
  refine aw_irem hK (by decide) dL_law_654 ?_
  refine aw_iconst hK (1) rfl dL_law_655 ?_
  refine aw_isub hK dL_law_656 ?_
  obtain ⟨y77, hy77, hF⟩ := bnd_some hF
  refine aw_nm hy77 ?_
  refine aw_istore hK [(16, q_i y77), (15, q_i s0), (0, q_v (.ref b)), (1, q_r 0), (2, q_r 70), (3, q_i x3), (4, q_i x4), (6, q_i x6), (7, q_i x7), (9, q_i x9), (14, q_i x14)] (by decide) rfl dL_law_657 ?_
  refine aw_iload hK 9 rfl dL_law_659 ?_
  refine aw_bipush hK (7) rfl dL_law_661 ?_
  refine aw_ishr hK dL_law_663 ?_
  refine aw_iconst hK (4) rfl dL_law_664 ?_
  refine aw_irem hK (by decide) dL_law_665 ?_
  refine aw_iconst hK (1) rfl dL_law_666 ?_
  refine aw_isub hK dL_law_667 ?_
  obtain ⟨y78, hy78, hF⟩ := bnd_some hF
  refine aw_nm hy78 ?_
  refine aw_istore hK [(17, q_i y78), (16, q_i y77), (15, q_i s0), (0, q_v (.ref b)), (1, q_r 0), (2, q_r 70), (3, q_i x3), (4, q_i x4), (6, q_i x6), (7, q_i x7), (9, q_i x9), (14, q_i x14)] (by decide) rfl dL_law_668 ?_
  refine aw_aload_n hK 4 rfl dL_law_670 ?_
  refine aw_bipush hK (11) rfl dL_law_671 ?_
  refine aw_iload hK 11 rfl dL_law_673 ?_
  refine aw_iload hK 2 rfl dL_law_675 ?_
  refine aw_iload hK 1 rfl dL_law_677 ?_
  refine aw_iload hK 0 rfl dL_law_679 ?_
  refine aw_iconst hK (0) rfl dL_law_681 ?_
  obtain ⟨r81, m80, h79, hF⟩ := cal_some hF
  refine aw_csW hK hB (as := [q_r 0, q_i (11 : Int32), q_i x14, q_i s0, q_i y77, q_i y78, q_i (0 : Int32)]) (trW_L_on h79) gL_law_L_on rfl (na := 7) (by decide +kernel) rfl ⟨by decide, by decide⟩ (by omega) (Nat.le_of_ble_eq_true rfl) dL_law_682 ?_
  refine aw_istore hK [(13, q_i r81), (17, q_i y78), (16, q_i y77), (15, q_i s0), (0, q_v (.ref b)), (1, q_r 0), (2, q_r 70), (3, q_i x3), (4, q_i x4), (6, q_i x6), (7, q_i x7), (9, q_i x9), (14, q_i x14)] (by decide) rfl dL_law_685 ?_
  refine aw_iload hK 0 rfl dL_law_687 ?_
  refine aw_if_ge hK 730 rfl dL_law_689 (fun hc => ?_) (fun hc => ?_)
  · have hF := if_t hF hc
    refine aw_wd (n' := n + 35) (by omega) ?_
    refine aw_sub [4, 5, 6, 7, 8, 9, 10, 11, 0, 12, 3, 2, 1] (lv' := [(0, q_v (.ref b)), (1, q_r 0), (2, q_r 70), (3, q_i x3), (4, q_i x4), (6, q_i x6), (7, q_i x7), (9, q_i x9), (13, q_i r81), (14, q_i x14), (15, q_i s0), (16, q_i y77), (17, q_i y78)]) rfl ?_
    exact bk_L_law_730 hK hB hFl hL hR hrec_52 (by omega) hF
  · have hF := if_f hF hc
    refine aw_iload hK 8 rfl dL_law_692 ?_
    refine aw_bipush hK (24) rfl dL_law_694 ?_
    refine aw_icmp_eq hK 730 rfl dL_law_696 (fun hc => ?_) (fun hc => ?_)
    · have hF := if_t hF hc
      refine aw_wd (n' := n + 35) (by omega) ?_
      refine aw_sub [4, 5, 6, 7, 8, 9, 10, 11, 0, 12, 3, 2, 1] (lv' := [(0, q_v (.ref b)), (1, q_r 0), (2, q_r 70), (3, q_i x3), (4, q_i x4), (6, q_i x6), (7, q_i x7), (9, q_i x9), (13, q_i r81), (14, q_i x14), (15, q_i s0), (16, q_i y77), (17, q_i y78)]) rfl ?_
      exact bk_L_law_730 hK hB hFl hL hR hrec_52 (by omega) hF
    · have hF := if_f hF hc
      refine aw_iload hK 3 rfl dL_law_699 ?_
      refine aw_bipush hK (8) rfl dL_law_701 ?_
      refine aw_icmp_ne hK 734 rfl dL_law_703 (fun hc => ?_) (fun hc => ?_)
      · have hF := if_f hF hc
        refine aw_wd (n' := n + 35) (by omega) ?_
        refine aw_sub [4, 5, 6, 7, 8, 9, 10, 11, 0, 12, 3, 2, 1] (lv' := [(0, q_v (.ref b)), (1, q_r 0), (2, q_r 70), (3, q_i x3), (4, q_i x4), (6, q_i x6), (7, q_i x7), (9, q_i x9), (13, q_i r81), (14, q_i x14), (15, q_i s0), (16, q_i y77), (17, q_i y78)]) rfl ?_
        exact bk_L_law_734 hK hB hFl hL hR hrec_52 (by omega) hF
      · have hF := if_t hF hc
        refine aw_iload hK 2 rfl dL_law_706 ?_
        refine aw_if_lt hK 718 rfl dL_law_708 (fun hc => ?_) (fun hc => ?_)
        · have hF := if_t hF hc
          refine aw_wd (n' := n + 35) (by omega) ?_
          refine aw_sub [4, 5, 6, 7, 8, 9, 10, 11, 0, 12, 3, 2, 1] (lv' := [(0, q_v (.ref b)), (1, q_r 0), (2, q_r 70), (3, q_i x3), (4, q_i x4), (6, q_i x6), (7, q_i x7), (9, q_i x9), (13, q_i r81), (14, q_i x14), (15, q_i s0), (16, q_i y77), (17, q_i y78)]) rfl ?_
          exact bk_L_law_718 hK hB hFl hL hR hrec_52 (by omega) hF
        · have hF := if_f hF hc
          refine aw_iload hK 2 rfl dL_law_711 ?_
          refine aw_iload hK 12 rfl dL_law_713 ?_
          refine aw_icmp_ne hK 734 rfl dL_law_715 (fun hc => ?_) (fun hc => ?_)
          · have hF := if_f hF hc
            refine aw_wd (n' := n + 35) (by omega) ?_
            refine aw_sub [4, 5, 6, 7, 8, 9, 10, 11, 0, 12, 3, 2, 1] (lv' := [(0, q_v (.ref b)), (1, q_r 0), (2, q_r 70), (3, q_i x3), (4, q_i x4), (6, q_i x6), (7, q_i x7), (9, q_i x9), (13, q_i r81), (14, q_i x14), (15, q_i s0), (16, q_i y77), (17, q_i y78)]) rfl ?_
            exact bk_L_law_734 hK hB hFl hL hR hrec_52 (by omega) hF
          · have hF := if_t hF hc
            refine aw_wd (n' := n + 35) (by omega) ?_
            refine aw_sub [4, 5, 6, 7, 8, 9, 10, 11, 0, 12, 3, 2, 1] (lv' := [(0, q_v (.ref b)), (1, q_r 0), (2, q_r 70), (3, q_i x3), (4, q_i x4), (6, q_i x6), (7, q_i x7), (9, q_i x9), (13, q_i r81), (14, q_i x14), (15, q_i s0), (16, q_i y77), (17, q_i y78)]) rfl ?_
            exact bk_L_law_718 hK hB hFl hL hR hrec_52 (by omega) hF
def B_L_law_611 (N L : Nat) (xs : Nat → Int32) (rec_52 : Mem → Int32 → Int32 → Int32 → Int32 → Int32 → Option (Int32 × Mem)) (m : Mem) (x3 : Int32) (x4 : Int32) (x5 : Int32) (x6 : Int32) (x7 : Int32) (x9 : Int32) (x10 : Int32) (x13 : Int32) : Option (Int32 × Mem) :=
  if x10 = (11 : Int32) then (
    bnd (q_rem (q_shr x9 (1 : Int32)) (3 : Int32)) fun y76 =>
    if (q_rem (q_shr x9 (3 : Int32)) (4 : Int32)) = (3 : Int32) then (
      B_L_law_647 N L xs rec_52 m x3 x4 x6 x7 x9 y76 (8 : Int32)
    ) else (
      B_L_law_647 N L xs rec_52 m x3 x4 x6 x7 x9 y76 (q_rem (q_shr x9 (3 : Int32)) (4 : Int32))
    )
  ) else (
    B_L_law_796 N L xs rec_52 m x3 x4 x5 x6 x7 x9 x13
  )
set_option maxRecDepth 100000 in
set_option maxHeartbeats 40000000 in
theorem bk_L_law_611 {N b L : Nat} {xs : Nat → Int32} {K : KT} {N0 : Nat} {m' : Mem} {f : Nat} {rec_52 : Mem → Int32 → Int32 → Int32 → Int32 → Int32 → Option (Int32 × Mem)} {n : Nat} (hK : KOK K cL_law 19 RL wsL_law 11 N0 248) (hB : KB K) (hFl : KFl K) (hL : KL K b L xs) (hR : KLr K N0) (hrec_52 : ∀ {n : Nat} {m : Mem} {x3 : Int32} {x4 : Int32} {x5 : Int32} {x6 : Int32} {x7 : Int32} (hn : n + f * 36 ≤ N0), rec_52 m x3 x4 x5 x6 x7 = some (1, m') → AW K n 52 [(0, q_v (.ref b)), (1, q_r 0), (2, q_r 70), (3, q_i x3), (4, q_i x4), (5, q_i x5), (6, q_i x6), (7, q_i x7)] [] m) (hn : n + 36 + f * 36 ≤ N0) {m : Mem} {x3 : Int32} {x4 : Int32} {x5 : Int32} {x6 : Int32} {x7 : Int32} {x9 : Int32} {x10 : Int32} {x13 : Int32} (hF : B_L_law_611 N L xs rec_52 m x3 x4 x5 x6 x7 x9 x10 x13 = some (1, m')) : AW K (n + 28) 611 [(0, q_v (.ref b)), (1, q_r 0), (2, q_r 70), (3, q_i x3), (4, q_i x4), (5, q_i x5), (6, q_i x6), (7, q_i x7), (9, q_i x9), (10, q_i x10), (13, q_i x13)] [] m := by
  unfold B_L_law_611 at hF
  refine aw_iload hK 9 rfl dL_law_611 ?_
  refine aw_bipush hK (11) rfl dL_law_613 ?_
  refine aw_icmp_ne hK 796 rfl dL_law_615 (fun hc => ?_) (fun hc => ?_)
  · have hF := if_f hF hc
    refine aw_wd (n' := n + 35) (by omega) ?_
    refine aw_sub [0, 1, 2, 3, 4, 5, 6, 7, 8, 10] (lv' := [(0, q_v (.ref b)), (1, q_r 0), (2, q_r 70), (3, q_i x3), (4, q_i x4), (5, q_i x5), (6, q_i x6), (7, q_i x7), (9, q_i x9), (13, q_i x13)]) rfl ?_
    exact bk_L_law_796 hK hB hFl hL hR hrec_52 (by omega) hF
  · have hF := if_t hF hc
    refine aw_iload hK 8 rfl dL_law_618 ?_
    refine aw_iconst hK (1) rfl dL_law_620 ?_
    refine aw_ishr hK dL_law_621 ?_
    refine aw_iconst hK (3) rfl dL_law_622 ?_
    refine aw_irem hK (by decide) dL_law_623 ?_
    obtain ⟨y76, hy76, hF⟩ := bnd_some hF
    refine aw_nm hy76 ?_
    refine aw_istore hK [(14, q_i y76), (0, q_v (.ref b)), (1, q_r 0), (2, q_r 70), (3, q_i x3), (4, q_i x4), (5, q_i x5), (6, q_i x6), (7, q_i x7), (9, q_i x9), (10, q_i x10), (13, q_i x13)] (by decide) rfl dL_law_624 ?_
    refine aw_iload hK 9 rfl dL_law_626 ?_
    refine aw_iconst hK (3) rfl dL_law_628 ?_
    refine aw_ishr hK dL_law_629 ?_
    refine aw_iconst hK (4) rfl dL_law_630 ?_
    refine aw_irem hK (by decide) dL_law_631 ?_
    refine aw_iconst hK (3) rfl dL_law_632 ?_
    refine aw_icmp_ne hK 641 rfl dL_law_633 (fun hc => ?_) (fun hc => ?_)
    · have hF := if_f hF hc
      refine aw_iload hK 9 rfl dL_law_641 ?_
      refine aw_iconst hK (3) rfl dL_law_643 ?_
      refine aw_ishr hK dL_law_644 ?_
      refine aw_iconst hK (4) rfl dL_law_645 ?_
      refine aw_irem hK (by decide) dL_law_646 ?_
      refine aw_wd (n' := n + 28) (by omega) ?_
      refine aw_sub [1, 2, 3, 4, 5, 7, 8, 9, 0] (lv' := [(0, q_v (.ref b)), (1, q_r 0), (2, q_r 70), (3, q_i x3), (4, q_i x4), (6, q_i x6), (7, q_i x7), (9, q_i x9), (14, q_i y76)]) rfl ?_
      exact bk_L_law_647 hK hB hFl hL hR hrec_52 (by omega) hF
    · have hF := if_t hF hc
      refine aw_bipush hK (8) rfl dL_law_636 ?_
      refine aw_goto hK 647 rfl dL_law_638 ?_
      refine aw_wd (n' := n + 28) (by omega) ?_
      refine aw_sub [1, 2, 3, 4, 5, 7, 8, 9, 0] (lv' := [(0, q_v (.ref b)), (1, q_r 0), (2, q_r 70), (3, q_i x3), (4, q_i x4), (6, q_i x6), (7, q_i x7), (9, q_i x9), (14, q_i y76)]) rfl ?_
      exact bk_L_law_647 hK hB hFl hL hR hrec_52 (by omega) hF
def B_L_law_606 (N L : Nat) (xs : Nat → Int32) (rec_52 : Mem → Int32 → Int32 → Int32 → Int32 → Int32 → Option (Int32 × Mem)) (m : Mem) (x3 : Int32) (x5 : Int32) (x6 : Int32) (x7 : Int32) (x9 : Int32) (x13 : Int32) (s0 : Int32) : Option (Int32 × Mem) :=
  B_L_law_796 N L xs rec_52 m x3 s0 x5 x6 x7 x9 x13
set_option maxRecDepth 100000 in
set_option maxHeartbeats 40000000 in
theorem bk_L_law_606 {N b L : Nat} {xs : Nat → Int32} {K : KT} {N0 : Nat} {m' : Mem} {f : Nat} {rec_52 : Mem → Int32 → Int32 → Int32 → Int32 → Int32 → Option (Int32 × Mem)} {n : Nat} (hK : KOK K cL_law 19 RL wsL_law 11 N0 248) (hB : KB K) (hFl : KFl K) (hL : KL K b L xs) (hR : KLr K N0) (hrec_52 : ∀ {n : Nat} {m : Mem} {x3 : Int32} {x4 : Int32} {x5 : Int32} {x6 : Int32} {x7 : Int32} (hn : n + f * 36 ≤ N0), rec_52 m x3 x4 x5 x6 x7 = some (1, m') → AW K n 52 [(0, q_v (.ref b)), (1, q_r 0), (2, q_r 70), (3, q_i x3), (4, q_i x4), (5, q_i x5), (6, q_i x6), (7, q_i x7)] [] m) (hn : n + 36 + f * 36 ≤ N0) {m : Mem} {x3 : Int32} {x5 : Int32} {x6 : Int32} {x7 : Int32} {x9 : Int32} {x13 : Int32} {s0 : Int32} (hF : B_L_law_606 N L xs rec_52 m x3 x5 x6 x7 x9 x13 s0 = some (1, m')) : AW K (n + 35) 606 [(0, q_v (.ref b)), (1, q_r 0), (2, q_r 70), (3, q_i x3), (5, q_i x5), (6, q_i x6), (7, q_i x7), (9, q_i x9), (13, q_i x13)] [q_i s0] m := by
  unfold B_L_law_606 at hF
  refine aw_istore hK [(4, q_i s0), (0, q_v (.ref b)), (1, q_r 0), (2, q_r 70), (3, q_i x3), (5, q_i x5), (6, q_i x6), (7, q_i x7), (9, q_i x9), (13, q_i x13)] (by decide) rfl dL_law_606 ?_
  refine aw_goto hK 796 rfl dL_law_608 ?_
  refine aw_wd (n' := n + 35) (by omega) ?_
  refine aw_sub [1, 2, 3, 4, 0, 5, 6, 7, 8, 9] (lv' := [(0, q_v (.ref b)), (1, q_r 0), (2, q_r 70), (3, q_i x3), (4, q_i s0), (5, q_i x5), (6, q_i x6), (7, q_i x7), (9, q_i x9), (13, q_i x13)]) rfl ?_
  exact bk_L_law_796 hK hB hFl hL hR hrec_52 (by omega) hF
def B_L_law_590 (N L : Nat) (xs : Nat → Int32) (rec_52 : Mem → Int32 → Int32 → Int32 → Int32 → Int32 → Option (Int32 × Mem)) (m : Mem) (x3 : Int32) (x4 : Int32) (x6 : Int32) (x7 : Int32) (x9 : Int32) (x13 : Int32) (x14 : Int32) (s0 : Int32) : Option (Int32 × Mem) :=
  if x14 < (0 : Int32) then (
    B_L_law_606 N L xs rec_52 m x3 s0 x6 x7 x9 x13 x4
  ) else (
    B_L_law_606 N L xs rec_52 m x3 s0 x6 x7 x9 x13 (x14 + (1 : Int32))
  )
set_option maxRecDepth 100000 in
set_option maxHeartbeats 40000000 in
theorem bk_L_law_590 {N b L : Nat} {xs : Nat → Int32} {K : KT} {N0 : Nat} {m' : Mem} {f : Nat} {rec_52 : Mem → Int32 → Int32 → Int32 → Int32 → Int32 → Option (Int32 × Mem)} {n : Nat} (hK : KOK K cL_law 19 RL wsL_law 11 N0 248) (hB : KB K) (hFl : KFl K) (hL : KL K b L xs) (hR : KLr K N0) (hrec_52 : ∀ {n : Nat} {m : Mem} {x3 : Int32} {x4 : Int32} {x5 : Int32} {x6 : Int32} {x7 : Int32} (hn : n + f * 36 ≤ N0), rec_52 m x3 x4 x5 x6 x7 = some (1, m') → AW K n 52 [(0, q_v (.ref b)), (1, q_r 0), (2, q_r 70), (3, q_i x3), (4, q_i x4), (5, q_i x5), (6, q_i x6), (7, q_i x7)] [] m) (hn : n + 36 + f * 36 ≤ N0) {m : Mem} {x3 : Int32} {x4 : Int32} {x6 : Int32} {x7 : Int32} {x9 : Int32} {x13 : Int32} {x14 : Int32} {s0 : Int32} (hF : B_L_law_590 N L xs rec_52 m x3 x4 x6 x7 x9 x13 x14 s0 = some (1, m')) : AW K (n + 35) 590 [(0, q_v (.ref b)), (1, q_r 0), (2, q_r 70), (3, q_i x3), (4, q_i x4), (6, q_i x6), (7, q_i x7), (9, q_i x9), (13, q_i x13), (14, q_i x14)] [q_i s0] m := by
  unfold B_L_law_590 at hF
  refine aw_istore hK [(5, q_i s0), (0, q_v (.ref b)), (1, q_r 0), (2, q_r 70), (3, q_i x3), (4, q_i x4), (6, q_i x6), (7, q_i x7), (9, q_i x9), (13, q_i x13), (14, q_i x14)] (by decide) rfl dL_law_590 ?_
  refine aw_iload hK 10 rfl dL_law_592 ?_
  refine aw_if_lt hK 604 rfl dL_law_594 (fun hc => ?_) (fun hc => ?_)
  · have hF := if_t hF hc
    refine aw_iload hK 5 rfl dL_law_604 ?_
    refine aw_wd (n' := n + 35) (by omega) ?_
    refine aw_sub [1, 2, 3, 4, 0, 6, 7, 8, 9] (lv' := [(0, q_v (.ref b)), (1, q_r 0), (2, q_r 70), (3, q_i x3), (5, q_i s0), (6, q_i x6), (7, q_i x7), (9, q_i x9), (13, q_i x13)]) rfl ?_
    exact bk_L_law_606 hK hB hFl hL hR hrec_52 (by omega) hF
  · have hF := if_f hF hc
    refine aw_iload hK 10 rfl dL_law_597 ?_
    refine aw_iconst hK (1) rfl dL_law_599 ?_
    refine aw_iadd hK dL_law_600 ?_
    refine aw_goto hK 606 rfl dL_law_601 ?_
    refine aw_wd (n' := n + 35) (by omega) ?_
    refine aw_sub [1, 2, 3, 4, 0, 6, 7, 8, 9] (lv' := [(0, q_v (.ref b)), (1, q_r 0), (2, q_r 70), (3, q_i x3), (5, q_i s0), (6, q_i x6), (7, q_i x7), (9, q_i x9), (13, q_i x13)]) rfl ?_
    exact bk_L_law_606 hK hB hFl hL hR hrec_52 (by omega) hF
def B_L_law_589 (N L : Nat) (xs : Nat → Int32) (rec_52 : Mem → Int32 → Int32 → Int32 → Int32 → Int32 → Option (Int32 × Mem)) (m : Mem) (x3 : Int32) (x4 : Int32) (x6 : Int32) (x7 : Int32) (x9 : Int32) (x13 : Int32) (x14 : Int32) : Option (Int32 × Mem) :=
  B_L_law_590 N L xs rec_52 m x3 x4 x6 x7 x9 x13 x14 (0 : Int32)
set_option maxRecDepth 100000 in
set_option maxHeartbeats 40000000 in
theorem bk_L_law_589 {N b L : Nat} {xs : Nat → Int32} {K : KT} {N0 : Nat} {m' : Mem} {f : Nat} {rec_52 : Mem → Int32 → Int32 → Int32 → Int32 → Int32 → Option (Int32 × Mem)} {n : Nat} (hK : KOK K cL_law 19 RL wsL_law 11 N0 248) (hB : KB K) (hFl : KFl K) (hL : KL K b L xs) (hR : KLr K N0) (hrec_52 : ∀ {n : Nat} {m : Mem} {x3 : Int32} {x4 : Int32} {x5 : Int32} {x6 : Int32} {x7 : Int32} (hn : n + f * 36 ≤ N0), rec_52 m x3 x4 x5 x6 x7 = some (1, m') → AW K n 52 [(0, q_v (.ref b)), (1, q_r 0), (2, q_r 70), (3, q_i x3), (4, q_i x4), (5, q_i x5), (6, q_i x6), (7, q_i x7)] [] m) (hn : n + 36 + f * 36 ≤ N0) {m : Mem} {x3 : Int32} {x4 : Int32} {x6 : Int32} {x7 : Int32} {x9 : Int32} {x13 : Int32} {x14 : Int32} (hF : B_L_law_589 N L xs rec_52 m x3 x4 x6 x7 x9 x13 x14 = some (1, m')) : AW K (n + 35) 589 [(0, q_v (.ref b)), (1, q_r 0), (2, q_r 70), (3, q_i x3), (4, q_i x4), (6, q_i x6), (7, q_i x7), (9, q_i x9), (13, q_i x13), (14, q_i x14)] [] m := by
  unfold B_L_law_589 at hF
  refine aw_iconst hK (0) rfl dL_law_589 ?_
  refine aw_wd (n' := n + 35) (by omega) ?_
  refine aw_sub [0, 1, 2, 3, 4, 5, 6, 7, 8, 9] (lv' := [(0, q_v (.ref b)), (1, q_r 0), (2, q_r 70), (3, q_i x3), (4, q_i x4), (6, q_i x6), (7, q_i x7), (9, q_i x9), (13, q_i x13), (14, q_i x14)]) rfl ?_
  exact bk_L_law_590 hK hB hFl hL hR hrec_52 (by omega) hF
def B_L_law_585 (N L : Nat) (xs : Nat → Int32) (rec_52 : Mem → Int32 → Int32 → Int32 → Int32 → Int32 → Option (Int32 × Mem)) (m : Mem) (x3 : Int32) (x4 : Int32) (x6 : Int32) (x7 : Int32) (x9 : Int32) (x13 : Int32) (x14 : Int32) : Option (Int32 × Mem) :=
  B_L_law_590 N L xs rec_52 m x3 x4 x6 x7 x9 x13 x14 (1 : Int32)
set_option maxRecDepth 100000 in
set_option maxHeartbeats 40000000 in
theorem bk_L_law_585 {N b L : Nat} {xs : Nat → Int32} {K : KT} {N0 : Nat} {m' : Mem} {f : Nat} {rec_52 : Mem → Int32 → Int32 → Int32 → Int32 → Int32 → Option (Int32 × Mem)} {n : Nat} (hK : KOK K cL_law 19 RL wsL_law 11 N0 248) (hB : KB K) (hFl : KFl K) (hL : KL K b L xs) (hR : KLr K N0) (hrec_52 : ∀ {n : Nat} {m : Mem} {x3 : Int32} {x4 : Int32} {x5 : Int32} {x6 : Int32} {x7 : Int32} (hn : n + f * 36 ≤ N0), rec_52 m x3 x4 x5 x6 x7 = some (1, m') → AW K n 52 [(0, q_v (.ref b)), (1, q_r 0), (2, q_r 70), (3, q_i x3), (4, q_i x4), (5, q_i x5), (6, q_i x6), (7, q_i x7)] [] m) (hn : n + 36 + f * 36 ≤ N0) {m : Mem} {x3 : Int32} {x4 : Int32} {x6 : Int32} {x7 : Int32} {x9 : Int32} {x13 : Int32} {x14 : Int32} (hF : B_L_law_585 N L xs rec_52 m x3 x4 x6 x7 x9 x13 x14 = some (1, m')) : AW K (n + 35) 585 [(0, q_v (.ref b)), (1, q_r 0), (2, q_r 70), (3, q_i x3), (4, q_i x4), (6, q_i x6), (7, q_i x7), (9, q_i x9), (13, q_i x13), (14, q_i x14)] [] m := by
  unfold B_L_law_585 at hF
  refine aw_iconst hK (1) rfl dL_law_585 ?_
  refine aw_goto hK 590 rfl dL_law_586 ?_
  refine aw_wd (n' := n + 35) (by omega) ?_
  refine aw_sub [0, 1, 2, 3, 4, 5, 6, 7, 8, 9] (lv' := [(0, q_v (.ref b)), (1, q_r 0), (2, q_r 70), (3, q_i x3), (4, q_i x4), (6, q_i x6), (7, q_i x7), (9, q_i x9), (13, q_i x13), (14, q_i x14)]) rfl ?_
  exact bk_L_law_590 hK hB hFl hL hR hrec_52 (by omega) hF
def B_L_law_544 (N L : Nat) (xs : Nat → Int32) (rec_52 : Mem → Int32 → Int32 → Int32 → Int32 → Int32 → Option (Int32 × Mem)) (m : Mem) (x3 : Int32) (x4 : Int32) (x6 : Int32) (x7 : Int32) (x9 : Int32) (x13 : Int32) (x14 : Int32) : Option (Int32 × Mem) :=
  if x14 = (x13 + (1 : Int32)) then (
    calL (F_X7_size N m x14) fun r69 m68 =>
    calL (F_X7_size N m68 x13) fun r72 m71 =>
    if r69 = r72 then (
      cal (F_L_on N m71 (12 : Int32) x14 x13 (0 : Int32) (0 : Int32) (0 : Int32)) fun r75 m74 =>
      if r75 = (-1 : Int32) then (
        B_L_law_585 N L xs rec_52 m74 x3 x4 x6 x7 x9 x13 x14
      ) else (
        B_L_law_589 N L xs rec_52 m74 x3 x4 x6 x7 x9 x13 x14
      )
    ) else (
      B_L_law_589 N L xs rec_52 m71 x3 x4 x6 x7 x9 x13 x14
    )
  ) else (
    B_L_law_589 N L xs rec_52 m x3 x4 x6 x7 x9 x13 x14
  )
set_option maxRecDepth 100000 in
set_option maxHeartbeats 40000000 in
theorem bk_L_law_544 {N b L : Nat} {xs : Nat → Int32} {K : KT} {N0 : Nat} {m' : Mem} {f : Nat} {rec_52 : Mem → Int32 → Int32 → Int32 → Int32 → Int32 → Option (Int32 × Mem)} {n : Nat} (hK : KOK K cL_law 19 RL wsL_law 11 N0 248) (hB : KB K) (hFl : KFl K) (hL : KL K b L xs) (hR : KLr K N0) (hrec_52 : ∀ {n : Nat} {m : Mem} {x3 : Int32} {x4 : Int32} {x5 : Int32} {x6 : Int32} {x7 : Int32} (hn : n + f * 36 ≤ N0), rec_52 m x3 x4 x5 x6 x7 = some (1, m') → AW K n 52 [(0, q_v (.ref b)), (1, q_r 0), (2, q_r 70), (3, q_i x3), (4, q_i x4), (5, q_i x5), (6, q_i x6), (7, q_i x7)] [] m) (hn : n + 36 + f * 36 ≤ N0) {m : Mem} {x3 : Int32} {x4 : Int32} {x6 : Int32} {x7 : Int32} {x9 : Int32} {x13 : Int32} {x14 : Int32} (hF : B_L_law_544 N L xs rec_52 m x3 x4 x6 x7 x9 x13 x14 = some (1, m')) : AW K (n + 28) 544 [(0, q_v (.ref b)), (1, q_r 0), (2, q_r 70), (3, q_i x3), (4, q_i x4), (6, q_i x6), (7, q_i x7), (9, q_i x9), (13, q_i x13), (14, q_i x14)] [] m := by
  unfold B_L_law_544 at hF
  refine aw_iload hK 9 rfl dL_law_544 ?_
  refine aw_iload hK 8 rfl dL_law_546 ?_
  refine aw_iconst hK (1) rfl dL_law_548 ?_
  refine aw_iadd hK dL_law_549 ?_
  refine aw_icmp_ne hK 589 rfl dL_law_550 (fun hc => ?_) (fun hc => ?_)
  · have hF := if_f hF hc
    refine aw_wd (n' := n + 35) (by omega) ?_
    refine aw_sub [0, 1, 2, 3, 4, 5, 6, 7, 8, 9] (lv' := [(0, q_v (.ref b)), (1, q_r 0), (2, q_r 70), (3, q_i x3), (4, q_i x4), (6, q_i x6), (7, q_i x7), (9, q_i x9), (13, q_i x13), (14, q_i x14)]) rfl ?_
    exact bk_L_law_589 hK hB hFl hL hR hrec_52 (by omega) hF
  · have hF := if_t hF hc
    refine aw_aload_n hK 1 rfl dL_law_553 ?_
    refine aw_iload hK 9 rfl dL_law_554 ?_
    obtain ⟨r69, m68, h67, hF⟩ := calL_some hF
    refine aw_cv hK 7 (as := [q_i x14]) (trN_X7_size h67) gL_law_X7_size rfl rfl rfl (by decide) (na := 1) (by decide +kernel) rfl ⟨by decide, by decide⟩ (by omega) (Nat.le_of_ble_eq_true rfl) dL_law_556 ?_
    refine aw_aload_n hK 1 rfl dL_law_559 ?_
    refine aw_iload hK 8 rfl dL_law_560 ?_
    obtain ⟨r72, m71, h70, hF⟩ := calL_some hF
    refine aw_cv hK 7 (as := [q_i x13]) (trN_X7_size h70) gL_law_X7_size rfl rfl rfl (by decide) (na := 1) (by decide +kernel) rfl ⟨by decide, by decide⟩ (by omega) (Nat.le_of_ble_eq_true rfl) dL_law_562 ?_
    refine aw_icmp_ne hK 589 rfl dL_law_565 (fun hc => ?_) (fun hc => ?_)
    · have hF := if_f hF hc
      refine aw_wd (n' := n + 35) (by omega) ?_
      refine aw_sub [0, 1, 2, 3, 4, 5, 6, 7, 8, 9] (lv' := [(0, q_v (.ref b)), (1, q_r 0), (2, q_r 70), (3, q_i x3), (4, q_i x4), (6, q_i x6), (7, q_i x7), (9, q_i x9), (13, q_i x13), (14, q_i x14)]) rfl ?_
      exact bk_L_law_589 hK hB hFl hL hR hrec_52 (by omega) hF
    · have hF := if_t hF hc
      refine aw_aload_n hK 1 rfl dL_law_568 ?_
      refine aw_bipush hK (12) rfl dL_law_569 ?_
      refine aw_iload hK 9 rfl dL_law_571 ?_
      refine aw_iload hK 8 rfl dL_law_573 ?_
      refine aw_iconst hK (0) rfl dL_law_575 ?_
      refine aw_iconst hK (0) rfl dL_law_576 ?_
      refine aw_iconst hK (0) rfl dL_law_577 ?_
      obtain ⟨r75, m74, h73, hF⟩ := cal_some hF
      refine aw_csW hK hB (as := [q_r 0, q_i (12 : Int32), q_i x14, q_i x13, q_i (0 : Int32), q_i (0 : Int32), q_i (0 : Int32)]) (trW_L_on h73) gL_law_L_on rfl (na := 7) (by decide +kernel) rfl ⟨by decide, by decide⟩ (by omega) (Nat.le_of_ble_eq_true rfl) dL_law_578 ?_
      refine aw_iconst hK (-1) rfl dL_law_581 ?_
      refine aw_icmp_ne hK 589 rfl dL_law_582 (fun hc => ?_) (fun hc => ?_)
      · have hF := if_f hF hc
        refine aw_wd (n' := n + 35) (by omega) ?_
        refine aw_sub [0, 1, 2, 3, 4, 5, 6, 7, 8, 9] (lv' := [(0, q_v (.ref b)), (1, q_r 0), (2, q_r 70), (3, q_i x3), (4, q_i x4), (6, q_i x6), (7, q_i x7), (9, q_i x9), (13, q_i x13), (14, q_i x14)]) rfl ?_
        exact bk_L_law_589 hK hB hFl hL hR hrec_52 (by omega) hF
      · have hF := if_t hF hc
        refine aw_wd (n' := n + 35) (by omega) ?_
        refine aw_sub [0, 1, 2, 3, 4, 5, 6, 7, 8, 9] (lv' := [(0, q_v (.ref b)), (1, q_r 0), (2, q_r 70), (3, q_i x3), (4, q_i x4), (6, q_i x6), (7, q_i x7), (9, q_i x9), (13, q_i x13), (14, q_i x14)]) rfl ?_
        exact bk_L_law_585 hK hB hFl hL hR hrec_52 (by omega) hF
def B_L_law_509 (N L : Nat) (xs : Nat → Int32) (rec_52 : Mem → Int32 → Int32 → Int32 → Int32 → Int32 → Option (Int32 × Mem)) (m : Mem) (x3 : Int32) (x4 : Int32) (x6 : Int32) (x7 : Int32) (x9 : Int32) (x13 : Int32) (s0 : Int32) : Option (Int32 × Mem) :=
  cal (F_L_on N m (9 : Int32) x13 (0 : Int32) (0 : Int32) (0 : Int32) (0 : Int32)) fun r66 m65 =>
  if s0 = (0 : Int32) then (
    B_L_law_589 N L xs rec_52 m65 x3 x4 x6 x7 x9 x13 r66
  ) else (
    if r66 = (-13 : Int32) then (
      if x13 = (23 : Int32) then (
        B_L_law_585 N L xs rec_52 m65 x3 x4 x6 x7 x9 x13 r66
      ) else (
        B_L_law_544 N L xs rec_52 m65 x3 x4 x6 x7 x9 x13 r66
      )
    ) else (
      B_L_law_544 N L xs rec_52 m65 x3 x4 x6 x7 x9 x13 r66
    )
  )
set_option maxRecDepth 100000 in
set_option maxHeartbeats 40000000 in
theorem bk_L_law_509 {N b L : Nat} {xs : Nat → Int32} {K : KT} {N0 : Nat} {m' : Mem} {f : Nat} {rec_52 : Mem → Int32 → Int32 → Int32 → Int32 → Int32 → Option (Int32 × Mem)} {n : Nat} (hK : KOK K cL_law 19 RL wsL_law 11 N0 248) (hB : KB K) (hFl : KFl K) (hL : KL K b L xs) (hR : KLr K N0) (hrec_52 : ∀ {n : Nat} {m : Mem} {x3 : Int32} {x4 : Int32} {x5 : Int32} {x6 : Int32} {x7 : Int32} (hn : n + f * 36 ≤ N0), rec_52 m x3 x4 x5 x6 x7 = some (1, m') → AW K n 52 [(0, q_v (.ref b)), (1, q_r 0), (2, q_r 70), (3, q_i x3), (4, q_i x4), (5, q_i x5), (6, q_i x6), (7, q_i x7)] [] m) (hn : n + 36 + f * 36 ≤ N0) {m : Mem} {x3 : Int32} {x4 : Int32} {x6 : Int32} {x7 : Int32} {x9 : Int32} {x13 : Int32} {s0 : Int32} (hF : B_L_law_509 N L xs rec_52 m x3 x4 x6 x7 x9 x13 s0 = some (1, m')) : AW K (n + 21) 509 [(0, q_v (.ref b)), (1, q_r 0), (2, q_r 70), (3, q_i x3), (4, q_i x4), (6, q_i x6), (7, q_i x7), (9, q_i x9), (13, q_i x13)] [q_i s0] m := by
  unfold B_L_law_509 at hF
  refine aw_istore hK [(5, q_i s0), (0, q_v (.ref b)), (1, q_r 0), (2, q_r 70), (3, q_i x3), (4, q_i x4), (6, q_i x6), (7, q_i x7), (9, q_i x9), (13, q_i x13)] (by decide) rfl dL_law_509 ?_
  refine aw_aload_n hK 2 rfl dL_law_511 ?_
  refine aw_bipush hK (9) rfl dL_law_512 ?_
  refine aw_iload hK 9 rfl dL_law_514 ?_
  refine aw_iconst hK (0) rfl dL_law_516 ?_
  refine aw_iconst hK (0) rfl dL_law_517 ?_
  refine aw_iconst hK (0) rfl dL_law_518 ?_
  refine aw_iconst hK (0) rfl dL_law_519 ?_
  obtain ⟨r66, m65, h64, hF⟩ := cal_some hF
  refine aw_csW hK hB (as := [q_r 0, q_i (9 : Int32), q_i x13, q_i (0 : Int32), q_i (0 : Int32), q_i (0 : Int32), q_i (0 : Int32)]) (trW_L_on h64) gL_law_L_on rfl (na := 7) (by decide +kernel) rfl ⟨by decide, by decide⟩ (by omega) (Nat.le_of_ble_eq_true rfl) dL_law_520 ?_
  refine aw_istore hK [(14, q_i r66), (5, q_i s0), (0, q_v (.ref b)), (1, q_r 0), (2, q_r 70), (3, q_i x3), (4, q_i x4), (6, q_i x6), (7, q_i x7), (9, q_i x9), (13, q_i x13)] (by decide) rfl dL_law_523 ?_
  refine aw_iload hK 1 rfl dL_law_525 ?_
  refine aw_if_eq hK 589 rfl dL_law_527 (fun hc => ?_) (fun hc => ?_)
  · have hF := if_t hF hc
    refine aw_wd (n' := n + 35) (by omega) ?_
    refine aw_sub [2, 3, 4, 5, 6, 7, 8, 9, 10, 0] (lv' := [(0, q_v (.ref b)), (1, q_r 0), (2, q_r 70), (3, q_i x3), (4, q_i x4), (6, q_i x6), (7, q_i x7), (9, q_i x9), (13, q_i x13), (14, q_i r66)]) rfl ?_
    exact bk_L_law_589 hK hB hFl hL hR hrec_52 (by omega) hF
  · have hF := if_f hF hc
    refine aw_iload hK 0 rfl dL_law_530 ?_
    refine aw_bipush hK (-13) rfl dL_law_532 ?_
    refine aw_icmp_ne hK 544 rfl dL_law_534 (fun hc => ?_) (fun hc => ?_)
    · have hF := if_f hF hc
      refine aw_wd (n' := n + 28) (by omega) ?_
      refine aw_sub [2, 3, 4, 5, 6, 7, 8, 9, 10, 0] (lv' := [(0, q_v (.ref b)), (1, q_r 0), (2, q_r 70), (3, q_i x3), (4, q_i x4), (6, q_i x6), (7, q_i x7), (9, q_i x9), (13, q_i x13), (14, q_i r66)]) rfl ?_
      exact bk_L_law_544 hK hB hFl hL hR hrec_52 (by omega) hF
    · have hF := if_t hF hc
      refine aw_iload hK 10 rfl dL_law_537 ?_
      refine aw_bipush hK (23) rfl dL_law_539 ?_
      refine aw_icmp_eq hK 585 rfl dL_law_541 (fun hc => ?_) (fun hc => ?_)
      · have hF := if_t hF hc
        refine aw_wd (n' := n + 35) (by omega) ?_
        refine aw_sub [2, 3, 4, 5, 6, 7, 8, 9, 10, 0] (lv' := [(0, q_v (.ref b)), (1, q_r 0), (2, q_r 70), (3, q_i x3), (4, q_i x4), (6, q_i x6), (7, q_i x7), (9, q_i x9), (13, q_i x13), (14, q_i r66)]) rfl ?_
        exact bk_L_law_585 hK hB hFl hL hR hrec_52 (by omega) hF
      · have hF := if_f hF hc
        refine aw_wd (n' := n + 28) (by omega) ?_
        refine aw_sub [2, 3, 4, 5, 6, 7, 8, 9, 10, 0] (lv' := [(0, q_v (.ref b)), (1, q_r 0), (2, q_r 70), (3, q_i x3), (4, q_i x4), (6, q_i x6), (7, q_i x7), (9, q_i x9), (13, q_i x13), (14, q_i r66)]) rfl ?_
        exact bk_L_law_544 hK hB hFl hL hR hrec_52 (by omega) hF
def B_L_law_504 (N L : Nat) (xs : Nat → Int32) (rec_52 : Mem → Int32 → Int32 → Int32 → Int32 → Int32 → Option (Int32 × Mem)) (m : Mem) (x3 : Int32) (x4 : Int32) (x6 : Int32) (x7 : Int32) (x9 : Int32) (x13 : Int32) : Option (Int32 × Mem) :=
  B_L_law_509 N L xs rec_52 m x3 x4 x6 x7 x9 x13 (1 : Int32)
set_option maxRecDepth 100000 in
set_option maxHeartbeats 40000000 in
theorem bk_L_law_504 {N b L : Nat} {xs : Nat → Int32} {K : KT} {N0 : Nat} {m' : Mem} {f : Nat} {rec_52 : Mem → Int32 → Int32 → Int32 → Int32 → Int32 → Option (Int32 × Mem)} {n : Nat} (hK : KOK K cL_law 19 RL wsL_law 11 N0 248) (hB : KB K) (hFl : KFl K) (hL : KL K b L xs) (hR : KLr K N0) (hrec_52 : ∀ {n : Nat} {m : Mem} {x3 : Int32} {x4 : Int32} {x5 : Int32} {x6 : Int32} {x7 : Int32} (hn : n + f * 36 ≤ N0), rec_52 m x3 x4 x5 x6 x7 = some (1, m') → AW K n 52 [(0, q_v (.ref b)), (1, q_r 0), (2, q_r 70), (3, q_i x3), (4, q_i x4), (5, q_i x5), (6, q_i x6), (7, q_i x7)] [] m) (hn : n + 36 + f * 36 ≤ N0) {m : Mem} {x3 : Int32} {x4 : Int32} {x6 : Int32} {x7 : Int32} {x9 : Int32} {x13 : Int32} (hF : B_L_law_504 N L xs rec_52 m x3 x4 x6 x7 x9 x13 = some (1, m')) : AW K (n + 21) 504 [(0, q_v (.ref b)), (1, q_r 0), (2, q_r 70), (3, q_i x3), (4, q_i x4), (6, q_i x6), (7, q_i x7), (9, q_i x9), (13, q_i x13)] [] m := by
  unfold B_L_law_504 at hF
  refine aw_iconst hK (1) rfl dL_law_504 ?_
  refine aw_goto hK 509 rfl dL_law_505 ?_
  refine aw_wd (n' := n + 21) (by omega) ?_
  refine aw_sub [0, 1, 2, 3, 4, 5, 6, 7, 8] (lv' := [(0, q_v (.ref b)), (1, q_r 0), (2, q_r 70), (3, q_i x3), (4, q_i x4), (6, q_i x6), (7, q_i x7), (9, q_i x9), (13, q_i x13)]) rfl ?_
  exact bk_L_law_509 hK hB hFl hL hR hrec_52 (by omega) hF
def B_L_law_450 (N L : Nat) (xs : Nat → Int32) (rec_52 : Mem → Int32 → Int32 → Int32 → Int32 → Int32 → Option (Int32 × Mem)) (m : Mem) (x3 : Int32) (x5 : Int32) (x6 : Int32) (x7 : Int32) (x9 : Int32) (x10 : Int32) (x11 : Int32) (x13 : Int32) (s0 : Int32) : Option (Int32 × Mem) :=
  if x5 = (0 : Int32) then (
    B_L_law_796 N L xs rec_52 m x3 s0 x5 x6 x7 x9 x13
  ) else (
    if x13 < (0 : Int32) then (
      B_L_law_796 N L xs rec_52 m x3 s0 x5 x6 x7 x9 x13
    ) else (
      if x10 = (9 : Int32) then (
        cal (F_L_on N m (12 : Int32) x11 x13 (0 : Int32) (0 : Int32) (0 : Int32)) fun r60 m59 =>
        if r60 = (-1 : Int32) then (
          B_L_law_504 N L xs rec_52 m59 x3 s0 x6 x7 x9 x13
        ) else (
          cal (F_L_on N m59 (12 : Int32) x11 x13 (0 : Int32) (0 : Int32) (0 : Int32)) fun r63 m62 =>
          if r63 = (-13 : Int32) then (
            B_L_law_504 N L xs rec_52 m62 x3 s0 x6 x7 x9 x13
          ) else (
            B_L_law_509 N L xs rec_52 m62 x3 s0 x6 x7 x9 x13 (0 : Int32)
          )
        )
      ) else (
        B_L_law_796 N L xs rec_52 m x3 s0 x5 x6 x7 x9 x13
      )
    )
  )
set_option maxRecDepth 100000 in
set_option maxHeartbeats 40000000 in
theorem bk_L_law_450 {N b L : Nat} {xs : Nat → Int32} {K : KT} {N0 : Nat} {m' : Mem} {f : Nat} {rec_52 : Mem → Int32 → Int32 → Int32 → Int32 → Int32 → Option (Int32 × Mem)} {n : Nat} (hK : KOK K cL_law 19 RL wsL_law 11 N0 248) (hB : KB K) (hFl : KFl K) (hL : KL K b L xs) (hR : KLr K N0) (hrec_52 : ∀ {n : Nat} {m : Mem} {x3 : Int32} {x4 : Int32} {x5 : Int32} {x6 : Int32} {x7 : Int32} (hn : n + f * 36 ≤ N0), rec_52 m x3 x4 x5 x6 x7 = some (1, m') → AW K n 52 [(0, q_v (.ref b)), (1, q_r 0), (2, q_r 70), (3, q_i x3), (4, q_i x4), (5, q_i x5), (6, q_i x6), (7, q_i x7)] [] m) (hn : n + 36 + f * 36 ≤ N0) {m : Mem} {x3 : Int32} {x5 : Int32} {x6 : Int32} {x7 : Int32} {x9 : Int32} {x10 : Int32} {x11 : Int32} {x13 : Int32} {s0 : Int32} (hF : B_L_law_450 N L xs rec_52 m x3 x5 x6 x7 x9 x10 x11 x13 s0 = some (1, m')) : AW K (n + 7) 450 [(0, q_v (.ref b)), (1, q_r 0), (2, q_r 70), (3, q_i x3), (5, q_i x5), (6, q_i x6), (7, q_i x7), (9, q_i x9), (10, q_i x10), (11, q_i x11), (13, q_i x13)] [q_i s0] m := by
  unfold B_L_law_450 at hF
  refine aw_istore hK [(4, q_i s0), (0, q_v (.ref b)), (1, q_r 0), (2, q_r 70), (3, q_i x3), (5, q_i x5), (6, q_i x6), (7, q_i x7), (9, q_i x9), (10, q_i x10), (11, q_i x11), (13, q_i x13)] (by decide) rfl dL_law_450 ?_
  refine aw_iload hK 5 rfl dL_law_452 ?_
  refine aw_if_eq hK 796 rfl dL_law_454 (fun hc => ?_) (fun hc => ?_)
  · have hF := if_t hF hc
    refine aw_wd (n' := n + 35) (by omega) ?_
    refine aw_sub [1, 2, 3, 4, 0, 5, 6, 7, 8, 11] (lv' := [(0, q_v (.ref b)), (1, q_r 0), (2, q_r 70), (3, q_i x3), (4, q_i s0), (5, q_i x5), (6, q_i x6), (7, q_i x7), (9, q_i x9), (13, q_i x13)]) rfl ?_
    exact bk_L_law_796 hK hB hFl hL hR hrec_52 (by omega) hF
  · have hF := if_f hF hc
    refine aw_iload hK 11 rfl dL_law_457 ?_
    refine aw_if_lt hK 796 rfl dL_law_459 (fun hc => ?_) (fun hc => ?_)
    · have hF := if_t hF hc
      refine aw_wd (n' := n + 35) (by omega) ?_
      refine aw_sub [1, 2, 3, 4, 0, 5, 6, 7, 8, 11] (lv' := [(0, q_v (.ref b)), (1, q_r 0), (2, q_r 70), (3, q_i x3), (4, q_i s0), (5, q_i x5), (6, q_i x6), (7, q_i x7), (9, q_i x9), (13, q_i x13)]) rfl ?_
      exact bk_L_law_796 hK hB hFl hL hR hrec_52 (by omega) hF
    · have hF := if_f hF hc
      refine aw_iload hK 9 rfl dL_law_462 ?_
      refine aw_bipush hK (9) rfl dL_law_464 ?_
      refine aw_icmp_ne hK 796 rfl dL_law_466 (fun hc => ?_) (fun hc => ?_)
      · have hF := if_f hF hc
        refine aw_wd (n' := n + 35) (by omega) ?_
        refine aw_sub [1, 2, 3, 4, 0, 5, 6, 7, 8, 11] (lv' := [(0, q_v (.ref b)), (1, q_r 0), (2, q_r 70), (3, q_i x3), (4, q_i s0), (5, q_i x5), (6, q_i x6), (7, q_i x7), (9, q_i x9), (13, q_i x13)]) rfl ?_
        exact bk_L_law_796 hK hB hFl hL hR hrec_52 (by omega) hF
      · have hF := if_t hF hc
        refine aw_aload_n hK 2 rfl dL_law_469 ?_
        refine aw_bipush hK (12) rfl dL_law_470 ?_
        refine aw_iload hK 10 rfl dL_law_472 ?_
        refine aw_iload hK 11 rfl dL_law_474 ?_
        refine aw_iconst hK (0) rfl dL_law_476 ?_
        refine aw_iconst hK (0) rfl dL_law_477 ?_
        refine aw_iconst hK (0) rfl dL_law_478 ?_
        obtain ⟨r60, m59, h58, hF⟩ := cal_some hF
        refine aw_csW hK hB (as := [q_r 0, q_i (12 : Int32), q_i x11, q_i x13, q_i (0 : Int32), q_i (0 : Int32), q_i (0 : Int32)]) (trW_L_on h58) gL_law_L_on rfl (na := 7) (by decide +kernel) rfl ⟨by decide, by decide⟩ (by omega) (Nat.le_of_ble_eq_true rfl) dL_law_479 ?_
        refine aw_iconst hK (-1) rfl dL_law_482 ?_
        refine aw_icmp_eq hK 504 rfl dL_law_483 (fun hc => ?_) (fun hc => ?_)
        · have hF := if_t hF hc
          refine aw_wd (n' := n + 21) (by omega) ?_
          refine aw_sub [1, 2, 3, 4, 0, 6, 7, 8, 11] (lv' := [(0, q_v (.ref b)), (1, q_r 0), (2, q_r 70), (3, q_i x3), (4, q_i s0), (6, q_i x6), (7, q_i x7), (9, q_i x9), (13, q_i x13)]) rfl ?_
          exact bk_L_law_504 hK hB hFl hL hR hrec_52 (by omega) hF
        · have hF := if_f hF hc
          refine aw_aload_n hK 2 rfl dL_law_486 ?_
          refine aw_bipush hK (12) rfl dL_law_487 ?_
          refine aw_iload hK 10 rfl dL_law_489 ?_
          refine aw_iload hK 11 rfl dL_law_491 ?_
          refine aw_iconst hK (0) rfl dL_law_493 ?_
          refine aw_iconst hK (0) rfl dL_law_494 ?_
          refine aw_iconst hK (0) rfl dL_law_495 ?_
          obtain ⟨r63, m62, h61, hF⟩ := cal_some hF
          refine aw_csW hK hB (as := [q_r 0, q_i (12 : Int32), q_i x11, q_i x13, q_i (0 : Int32), q_i (0 : Int32), q_i (0 : Int32)]) (trW_L_on h61) gL_law_L_on rfl (na := 7) (by decide +kernel) rfl ⟨by decide, by decide⟩ (by omega) (Nat.le_of_ble_eq_true rfl) dL_law_496 ?_
          refine aw_bipush hK (-13) rfl dL_law_499 ?_
          refine aw_icmp_ne hK 508 rfl dL_law_501 (fun hc => ?_) (fun hc => ?_)
          · have hF := if_f hF hc
            refine aw_iconst hK (0) rfl dL_law_508 ?_
            refine aw_wd (n' := n + 21) (by omega) ?_
            refine aw_sub [1, 2, 3, 4, 0, 6, 7, 8, 11] (lv' := [(0, q_v (.ref b)), (1, q_r 0), (2, q_r 70), (3, q_i x3), (4, q_i s0), (6, q_i x6), (7, q_i x7), (9, q_i x9), (13, q_i x13)]) rfl ?_
            exact bk_L_law_509 hK hB hFl hL hR hrec_52 (by omega) hF
          · have hF := if_t hF hc
            refine aw_wd (n' := n + 21) (by omega) ?_
            refine aw_sub [1, 2, 3, 4, 0, 6, 7, 8, 11] (lv' := [(0, q_v (.ref b)), (1, q_r 0), (2, q_r 70), (3, q_i x3), (4, q_i s0), (6, q_i x6), (7, q_i x7), (9, q_i x9), (13, q_i x13)]) rfl ?_
            exact bk_L_law_504 hK hB hFl hL hR hrec_52 (by omega) hF
def B_L_law_401 (N L : Nat) (xs : Nat → Int32) (rec_52 : Mem → Int32 → Int32 → Int32 → Int32 → Int32 → Option (Int32 × Mem)) (m : Mem) (x3 : Int32) (x4 : Int32) (x5 : Int32) (x6 : Int32) (x7 : Int32) (x9 : Int32) (x10 : Int32) (x11 : Int32) (x12 : Int32) (x13 : Int32) : Option (Int32 × Mem) :=
  if (11 : Int32) ≤ x10 then (
    B_L_law_611 N L xs rec_52 m x3 x4 x5 x6 x7 x9 x10 x13
  ) else (
    if x4 ≤ (0 : Int32) then (
      B_L_law_611 N L xs rec_52 m x3 x4 x5 x6 x7 x9 x10 x13
    ) else (
      cal (F_L_on N m x10 x11 x12 ((q_shr x9 (10 : Int32)) &&& (1 : Int32)) (0 : Int32) (0 : Int32)) fun r57 m56 =>
      if r57 < x4 then (
        B_L_law_450 N L xs rec_52 m56 x3 x5 x6 x7 x9 x10 x11 r57 x4
      ) else (
        B_L_law_450 N L xs rec_52 m56 x3 x5 x6 x7 x9 x10 x11 r57 (r57 + (1 : Int32))
      )
    )
  )
set_option maxRecDepth 100000 in
set_option maxHeartbeats 40000000 in
theorem bk_L_law_401 {N b L : Nat} {xs : Nat → Int32} {K : KT} {N0 : Nat} {m' : Mem} {f : Nat} {rec_52 : Mem → Int32 → Int32 → Int32 → Int32 → Int32 → Option (Int32 × Mem)} {n : Nat} (hK : KOK K cL_law 19 RL wsL_law 11 N0 248) (hB : KB K) (hFl : KFl K) (hL : KL K b L xs) (hR : KLr K N0) (hrec_52 : ∀ {n : Nat} {m : Mem} {x3 : Int32} {x4 : Int32} {x5 : Int32} {x6 : Int32} {x7 : Int32} (hn : n + f * 36 ≤ N0), rec_52 m x3 x4 x5 x6 x7 = some (1, m') → AW K n 52 [(0, q_v (.ref b)), (1, q_r 0), (2, q_r 70), (3, q_i x3), (4, q_i x4), (5, q_i x5), (6, q_i x6), (7, q_i x7)] [] m) (hn : n + 36 + f * 36 ≤ N0) {m : Mem} {x3 : Int32} {x4 : Int32} {x5 : Int32} {x6 : Int32} {x7 : Int32} {x9 : Int32} {x10 : Int32} {x11 : Int32} {x12 : Int32} {x13 : Int32} (hF : B_L_law_401 N L xs rec_52 m x3 x4 x5 x6 x7 x9 x10 x11 x12 x13 = some (1, m')) : AW K (n + 0) 401 [(0, q_v (.ref b)), (1, q_r 0), (2, q_r 70), (3, q_i x3), (4, q_i x4), (5, q_i x5), (6, q_i x6), (7, q_i x7), (9, q_i x9), (10, q_i x10), (11, q_i x11), (12, q_i x12), (13, q_i x13)] [] m := by
  unfold B_L_law_401 at hF
  refine aw_iload hK 9 rfl dL_law_401 ?_
  refine aw_bipush hK (11) rfl dL_law_403 ?_
  refine aw_icmp_ge hK 611 rfl dL_law_405 (fun hc => ?_) (fun hc => ?_)
  · have hF := if_t hF hc
    refine aw_wd (n' := n + 28) (by omega) ?_
    refine aw_sub [0, 1, 2, 3, 4, 5, 6, 7, 8, 9, 12] (lv' := [(0, q_v (.ref b)), (1, q_r 0), (2, q_r 70), (3, q_i x3), (4, q_i x4), (5, q_i x5), (6, q_i x6), (7, q_i x7), (9, q_i x9), (10, q_i x10), (13, q_i x13)]) rfl ?_
    exact bk_L_law_611 hK hB hFl hL hR hrec_52 (by omega) hF
  · have hF := if_f hF hc
    refine aw_iload hK 4 rfl dL_law_408 ?_
    refine aw_if_le hK 611 rfl dL_law_410 (fun hc => ?_) (fun hc => ?_)
    · have hF := if_t hF hc
      refine aw_wd (n' := n + 28) (by omega) ?_
      refine aw_sub [0, 1, 2, 3, 4, 5, 6, 7, 8, 9, 12] (lv' := [(0, q_v (.ref b)), (1, q_r 0), (2, q_r 70), (3, q_i x3), (4, q_i x4), (5, q_i x5), (6, q_i x6), (7, q_i x7), (9, q_i x9), (10, q_i x10), (13, q_i x13)]) rfl ?_
      exact bk_L_law_611 hK hB hFl hL hR hrec_52 (by omega) hF
    · have hF := if_f hF hc
      refine aw_aload_n hK 1 rfl dL_law_413 ?_
      refine aw_iload hK 9 rfl dL_law_414 ?_
      refine aw_iload hK 10 rfl dL_law_416 ?_
      refine aw_iload hK 11 rfl dL_law_418 ?_
      refine aw_iload hK 8 rfl dL_law_420 ?_
      refine aw_bipush hK (10) rfl dL_law_422 ?_
      refine aw_ishr hK dL_law_424 ?_
      refine aw_iconst hK (1) rfl dL_law_425 ?_
      refine aw_iand hK dL_law_426 ?_
      refine aw_iconst hK (0) rfl dL_law_427 ?_
      refine aw_iconst hK (0) rfl dL_law_428 ?_
      obtain ⟨r57, m56, h55, hF⟩ := cal_some hF
      refine aw_csW hK hB (as := [q_r 0, q_i x10, q_i x11, q_i x12, q_i ((q_shr x9 (10 : Int32)) &&& (1 : Int32)), q_i (0 : Int32), q_i (0 : Int32)]) (trW_L_on h55) gL_law_L_on rfl (na := 7) (by decide +kernel) rfl ⟨by decide, by decide⟩ (by omega) (Nat.le_of_ble_eq_true rfl) dL_law_429 ?_
      refine aw_istore hK [(13, q_i r57), (0, q_v (.ref b)), (1, q_r 0), (2, q_r 70), (3, q_i x3), (4, q_i x4), (5, q_i x5), (6, q_i x6), (7, q_i x7), (9, q_i x9), (10, q_i x10), (11, q_i x11), (12, q_i x12)] (by decide) rfl dL_law_432 ?_
      refine aw_iload hK 0 rfl dL_law_434 ?_
      refine aw_iload hK 5 rfl dL_law_436 ?_
      refine aw_icmp_lt hK 448 rfl dL_law_438 (fun hc => ?_) (fun hc => ?_)
      · have hF := if_t hF hc
        refine aw_iload hK 5 rfl dL_law_448 ?_
        refine aw_wd (n' := n + 7) (by omega) ?_
        refine aw_sub [1, 2, 3, 4, 6, 7, 8, 9, 10, 11, 0] (lv' := [(0, q_v (.ref b)), (1, q_r 0), (2, q_r 70), (3, q_i x3), (5, q_i x5), (6, q_i x6), (7, q_i x7), (9, q_i x9), (10, q_i x10), (11, q_i x11), (13, q_i r57)]) rfl ?_
        exact bk_L_law_450 hK hB hFl hL hR hrec_52 (by omega) hF
      · have hF := if_f hF hc
        refine aw_iload hK 0 rfl dL_law_441 ?_
        refine aw_iconst hK (1) rfl dL_law_443 ?_
        refine aw_iadd hK dL_law_444 ?_
        refine aw_goto hK 450 rfl dL_law_445 ?_
        refine aw_wd (n' := n + 7) (by omega) ?_
        refine aw_sub [1, 2, 3, 4, 6, 7, 8, 9, 10, 11, 0] (lv' := [(0, q_v (.ref b)), (1, q_r 0), (2, q_r 70), (3, q_i x3), (5, q_i x5), (6, q_i x6), (7, q_i x7), (9, q_i x9), (10, q_i x10), (11, q_i x11), (13, q_i r57)]) rfl ?_
        exact bk_L_law_450 hK hB hFl hL hR hrec_52 (by omega) hF
def B_L_law_390 (N L : Nat) (xs : Nat → Int32) (rec_52 : Mem → Int32 → Int32 → Int32 → Int32 → Int32 → Option (Int32 × Mem)) (m : Mem) (x3 : Int32) (x4 : Int32) (x5 : Int32) (x6 : Int32) (x7 : Int32) (x9 : Int32) (s0 : Int32) (s1 : Int32) (s2 : Int32) : Option (Int32 × Mem) :=
  cal (F_L_on N m s2 s1 s0 (0 : Int32) (0 : Int32) (0 : Int32)) fun r54 m53 =>
  B_L_law_796 N L xs rec_52 m53 x3 x4 x5 x6 x7 x9 r54
set_option maxRecDepth 100000 in
set_option maxHeartbeats 40000000 in
theorem bk_L_law_390 {N b L : Nat} {xs : Nat → Int32} {K : KT} {N0 : Nat} {m' : Mem} {f : Nat} {rec_52 : Mem → Int32 → Int32 → Int32 → Int32 → Int32 → Option (Int32 × Mem)} {n : Nat} (hK : KOK K cL_law 19 RL wsL_law 11 N0 248) (hB : KB K) (hFl : KFl K) (hL : KL K b L xs) (hR : KLr K N0) (hrec_52 : ∀ {n : Nat} {m : Mem} {x3 : Int32} {x4 : Int32} {x5 : Int32} {x6 : Int32} {x7 : Int32} (hn : n + f * 36 ≤ N0), rec_52 m x3 x4 x5 x6 x7 = some (1, m') → AW K n 52 [(0, q_v (.ref b)), (1, q_r 0), (2, q_r 70), (3, q_i x3), (4, q_i x4), (5, q_i x5), (6, q_i x6), (7, q_i x7)] [] m) (hn : n + 36 + f * 36 ≤ N0) {m : Mem} {x3 : Int32} {x4 : Int32} {x5 : Int32} {x6 : Int32} {x7 : Int32} {x9 : Int32} {s0 : Int32} {s1 : Int32} {s2 : Int32} (hF : B_L_law_390 N L xs rec_52 m x3 x4 x5 x6 x7 x9 s0 s1 s2 = some (1, m')) : AW K (n + 28) 390 [(0, q_v (.ref b)), (1, q_r 0), (2, q_r 70), (3, q_i x3), (4, q_i x4), (5, q_i x5), (6, q_i x6), (7, q_i x7), (9, q_i x9)] [q_i s0, q_i s1, q_i s2, q_r 0] m := by
  unfold B_L_law_390 at hF
  refine aw_iconst hK (0) rfl dL_law_390 ?_
  refine aw_iconst hK (0) rfl dL_law_391 ?_
  refine aw_iconst hK (0) rfl dL_law_392 ?_
  obtain ⟨r54, m53, h52, hF⟩ := cal_some hF
  refine aw_csW hK hB (as := [q_r 0, q_i s2, q_i s1, q_i s0, q_i (0 : Int32), q_i (0 : Int32), q_i (0 : Int32)]) (trW_L_on h52) gL_law_L_on rfl (na := 7) (by decide +kernel) rfl ⟨by decide, by decide⟩ (by omega) (Nat.le_of_ble_eq_true rfl) dL_law_393 ?_
  refine aw_istore hK [(13, q_i r54), (0, q_v (.ref b)), (1, q_r 0), (2, q_r 70), (3, q_i x3), (4, q_i x4), (5, q_i x5), (6, q_i x6), (7, q_i x7), (9, q_i x9)] (by decide) rfl dL_law_396 ?_
  refine aw_goto hK 796 rfl dL_law_398 ?_
  refine aw_wd (n' := n + 35) (by omega) ?_
  refine aw_sub [1, 2, 3, 4, 5, 6, 7, 8, 9, 0] (lv' := [(0, q_v (.ref b)), (1, q_r 0), (2, q_r 70), (3, q_i x3), (4, q_i x4), (5, q_i x5), (6, q_i x6), (7, q_i x7), (9, q_i x9), (13, q_i r54)]) rfl ?_
  exact bk_L_law_796 hK hB hFl hL hR hrec_52 (by omega) hF
def B_L_law_311 (N L : Nat) (xs : Nat → Int32) (rec_52 : Mem → Int32 → Int32 → Int32 → Int32 → Int32 → Option (Int32 × Mem)) (m : Mem) (x3 : Int32) (x4 : Int32) (x5 : Int32) (x6 : Int32) (x7 : Int32) (x9 : Int32) (s0 : Int32) (s1 : Int32) (s2 : Int32) : Option (Int32 × Mem) :=
  cal (F_L_on N m s2 s1 s0 (q_rem (q_shr x9 (5 : Int32)) (9 : Int32)) (0 : Int32) (0 : Int32)) fun r20 m19 =>
  B_L_law_796 N L xs rec_52 m19 x3 x4 x5 x6 x7 x9 r20
set_option maxRecDepth 100000 in
set_option maxHeartbeats 40000000 in
theorem bk_L_law_311 {N b L : Nat} {xs : Nat → Int32} {K : KT} {N0 : Nat} {m' : Mem} {f : Nat} {rec_52 : Mem → Int32 → Int32 → Int32 → Int32 → Int32 → Option (Int32 × Mem)} {n : Nat} (hK : KOK K cL_law 19 RL wsL_law 11 N0 248) (hB : KB K) (hFl : KFl K) (hL : KL K b L xs) (hR : KLr K N0) (hrec_52 : ∀ {n : Nat} {m : Mem} {x3 : Int32} {x4 : Int32} {x5 : Int32} {x6 : Int32} {x7 : Int32} (hn : n + f * 36 ≤ N0), rec_52 m x3 x4 x5 x6 x7 = some (1, m') → AW K n 52 [(0, q_v (.ref b)), (1, q_r 0), (2, q_r 70), (3, q_i x3), (4, q_i x4), (5, q_i x5), (6, q_i x6), (7, q_i x7)] [] m) (hn : n + 36 + f * 36 ≤ N0) {m : Mem} {x3 : Int32} {x4 : Int32} {x5 : Int32} {x6 : Int32} {x7 : Int32} {x9 : Int32} {s0 : Int32} {s1 : Int32} {s2 : Int32} (hF : B_L_law_311 N L xs rec_52 m x3 x4 x5 x6 x7 x9 s0 s1 s2 = some (1, m')) : AW K (n + 28) 311 [(0, q_v (.ref b)), (1, q_r 0), (2, q_r 70), (3, q_i x3), (4, q_i x4), (5, q_i x5), (6, q_i x6), (7, q_i x7), (9, q_i x9)] [q_i s0, q_i s1, q_i s2, q_r 0] m := by
  unfold B_L_law_311 at hF
  refine aw_iload hK 8 rfl dL_law_311 ?_
  refine aw_iconst hK (5) rfl dL_law_313 ?_
  refine aw_ishr hK dL_law_314 ?_
  refine aw_bipush hK (9) rfl dL_law_315 ?_
  refine aw_irem hK (by decide) dL_law_317 ?_
  refine aw_iconst hK (0) rfl dL_law_318 ?_
  refine aw_iconst hK (0) rfl dL_law_319 ?_
  obtain ⟨r20, m19, h18, hF⟩ := cal_some hF
  refine aw_csW hK hB (as := [q_r 0, q_i s2, q_i s1, q_i s0, q_i (q_rem (q_shr x9 (5 : Int32)) (9 : Int32)), q_i (0 : Int32), q_i (0 : Int32)]) (trW_L_on h18) gL_law_L_on rfl (na := 7) (by decide +kernel) rfl ⟨by decide, by decide⟩ (by omega) (Nat.le_of_ble_eq_true rfl) dL_law_320 ?_
  refine aw_istore hK [(13, q_i r20), (0, q_v (.ref b)), (1, q_r 0), (2, q_r 70), (3, q_i x3), (4, q_i x4), (5, q_i x5), (6, q_i x6), (7, q_i x7), (9, q_i x9)] (by decide) rfl dL_law_323 ?_
  refine aw_goto hK 796 rfl dL_law_325 ?_
  refine aw_wd (n' := n + 35) (by omega) ?_
  refine aw_sub [1, 2, 3, 4, 5, 6, 7, 8, 9, 0] (lv' := [(0, q_v (.ref b)), (1, q_r 0), (2, q_r 70), (3, q_i x3), (4, q_i x4), (5, q_i x5), (6, q_i x6), (7, q_i x7), (9, q_i x9), (13, q_i r20)]) rfl ?_
  exact bk_L_law_796 hK hB hFl hL hR hrec_52 (by omega) hF
def B_L_law_290 (N L : Nat) (xs : Nat → Int32) (rec_52 : Mem → Int32 → Int32 → Int32 → Int32 → Int32 → Option (Int32 × Mem)) (m : Mem) (x3 : Int32) (x4 : Int32) (x5 : Int32) (x6 : Int32) (x7 : Int32) (x9 : Int32) (s0 : Int32) (s1 : Int32) : Option (Int32 × Mem) :=
  if ((q_shr x9 (3 : Int32)) &&& (3 : Int32)) = (3 : Int32) then (
    B_L_law_311 N L xs rec_52 m x3 x4 x5 x6 x7 x9 (8 : Int32) s0 s1
  ) else (
    B_L_law_311 N L xs rec_52 m x3 x4 x5 x6 x7 x9 (q_rem (q_shr x9 (3 : Int32)) (3 : Int32)) s0 s1
  )
set_option maxRecDepth 100000 in
set_option maxHeartbeats 40000000 in
theorem bk_L_law_290 {N b L : Nat} {xs : Nat → Int32} {K : KT} {N0 : Nat} {m' : Mem} {f : Nat} {rec_52 : Mem → Int32 → Int32 → Int32 → Int32 → Int32 → Option (Int32 × Mem)} {n : Nat} (hK : KOK K cL_law 19 RL wsL_law 11 N0 248) (hB : KB K) (hFl : KFl K) (hL : KL K b L xs) (hR : KLr K N0) (hrec_52 : ∀ {n : Nat} {m : Mem} {x3 : Int32} {x4 : Int32} {x5 : Int32} {x6 : Int32} {x7 : Int32} (hn : n + f * 36 ≤ N0), rec_52 m x3 x4 x5 x6 x7 = some (1, m') → AW K n 52 [(0, q_v (.ref b)), (1, q_r 0), (2, q_r 70), (3, q_i x3), (4, q_i x4), (5, q_i x5), (6, q_i x6), (7, q_i x7)] [] m) (hn : n + 36 + f * 36 ≤ N0) {m : Mem} {x3 : Int32} {x4 : Int32} {x5 : Int32} {x6 : Int32} {x7 : Int32} {x9 : Int32} {s0 : Int32} {s1 : Int32} (hF : B_L_law_290 N L xs rec_52 m x3 x4 x5 x6 x7 x9 s0 s1 = some (1, m')) : AW K (n + 28) 290 [(0, q_v (.ref b)), (1, q_r 0), (2, q_r 70), (3, q_i x3), (4, q_i x4), (5, q_i x5), (6, q_i x6), (7, q_i x7), (9, q_i x9)] [q_i s0, q_i s1, q_r 0] m := by
  unfold B_L_law_290 at hF
  refine aw_iload hK 8 rfl dL_law_290 ?_
  refine aw_iconst hK (3) rfl dL_law_292 ?_
  refine aw_ishr hK dL_law_293 ?_
  refine aw_iconst hK (3) rfl dL_law_294 ?_
  refine aw_iand hK dL_law_295 ?_
  refine aw_iconst hK (3) rfl dL_law_296 ?_
  refine aw_icmp_ne hK 305 rfl dL_law_297 (fun hc => ?_) (fun hc => ?_)
  · have hF := if_f hF hc
    refine aw_iload hK 8 rfl dL_law_305 ?_
    refine aw_iconst hK (3) rfl dL_law_307 ?_
    refine aw_ishr hK dL_law_308 ?_
    refine aw_iconst hK (3) rfl dL_law_309 ?_
    refine aw_irem hK (by decide) dL_law_310 ?_
    refine aw_wd (n' := n + 28) (by omega) ?_
    refine aw_sub [0, 1, 2, 3, 4, 5, 6, 7, 8] (lv' := [(0, q_v (.ref b)), (1, q_r 0), (2, q_r 70), (3, q_i x3), (4, q_i x4), (5, q_i x5), (6, q_i x6), (7, q_i x7), (9, q_i x9)]) rfl ?_
    exact bk_L_law_311 hK hB hFl hL hR hrec_52 (by omega) hF
  · have hF := if_t hF hc
    refine aw_bipush hK (8) rfl dL_law_300 ?_
    refine aw_goto hK 311 rfl dL_law_302 ?_
    refine aw_wd (n' := n + 28) (by omega) ?_
    refine aw_sub [0, 1, 2, 3, 4, 5, 6, 7, 8] (lv' := [(0, q_v (.ref b)), (1, q_r 0), (2, q_r 70), (3, q_i x3), (4, q_i x4), (5, q_i x5), (6, q_i x6), (7, q_i x7), (9, q_i x9)]) rfl ?_
    exact bk_L_law_311 hK hB hFl hL hR hrec_52 (by omega) hF
def B_L_law_258 (N L : Nat) (xs : Nat → Int32) (rec_52 : Mem → Int32 → Int32 → Int32 → Int32 → Int32 → Option (Int32 × Mem)) (m : Mem) (x3 : Int32) (x4 : Int32) (x5 : Int32) (x6 : Int32) (x7 : Int32) (x9 : Int32) (x13 : Int32) : Option (Int32 × Mem) :=
  B_L_law_796 N L xs rec_52 m x3 x4 x5 x6 x7 x9 x13
set_option maxRecDepth 100000 in
set_option maxHeartbeats 40000000 in
theorem bk_L_law_258 {N b L : Nat} {xs : Nat → Int32} {K : KT} {N0 : Nat} {m' : Mem} {f : Nat} {rec_52 : Mem → Int32 → Int32 → Int32 → Int32 → Int32 → Option (Int32 × Mem)} {n : Nat} (hK : KOK K cL_law 19 RL wsL_law 11 N0 248) (hB : KB K) (hFl : KFl K) (hL : KL K b L xs) (hR : KLr K N0) (hrec_52 : ∀ {n : Nat} {m : Mem} {x3 : Int32} {x4 : Int32} {x5 : Int32} {x6 : Int32} {x7 : Int32} (hn : n + f * 36 ≤ N0), rec_52 m x3 x4 x5 x6 x7 = some (1, m') → AW K n 52 [(0, q_v (.ref b)), (1, q_r 0), (2, q_r 70), (3, q_i x3), (4, q_i x4), (5, q_i x5), (6, q_i x6), (7, q_i x7)] [] m) (hn : n + 36 + f * 36 ≤ N0) {m : Mem} {x3 : Int32} {x4 : Int32} {x5 : Int32} {x6 : Int32} {x7 : Int32} {x9 : Int32} {x13 : Int32} (hF : B_L_law_258 N L xs rec_52 m x3 x4 x5 x6 x7 x9 x13 = some (1, m')) : AW K (n + 35) 258 [(0, q_v (.ref b)), (1, q_r 0), (2, q_r 70), (3, q_i x3), (4, q_i x4), (5, q_i x5), (6, q_i x6), (7, q_i x7), (9, q_i x9), (13, q_i x13)] [] m := by
  unfold B_L_law_258 at hF
  refine aw_goto hK 796 rfl dL_law_258 ?_
  refine aw_wd (n' := n + 35) (by omega) ?_
  refine aw_sub [0, 1, 2, 3, 4, 5, 6, 7, 8, 9] (lv' := [(0, q_v (.ref b)), (1, q_r 0), (2, q_r 70), (3, q_i x3), (4, q_i x4), (5, q_i x5), (6, q_i x6), (7, q_i x7), (9, q_i x9), (13, q_i x13)]) rfl ?_
  exact bk_L_law_796 hK hB hFl hL hR hrec_52 (by omega) hF
def B_L_law_254 (N L : Nat) (xs : Nat → Int32) (rec_52 : Mem → Int32 → Int32 → Int32 → Int32 → Int32 → Option (Int32 × Mem)) (m : Mem) (x4 : Int32) (x6 : Int32) (x7 : Int32) (x9 : Int32) (x13 : Int32) (s0 : Int32) : Option (Int32 × Mem) :=
  B_L_law_258 N L xs rec_52 m (0 : Int32) x4 s0 x6 x7 x9 x13
set_option maxRecDepth 100000 in
set_option maxHeartbeats 40000000 in
theorem bk_L_law_254 {N b L : Nat} {xs : Nat → Int32} {K : KT} {N0 : Nat} {m' : Mem} {f : Nat} {rec_52 : Mem → Int32 → Int32 → Int32 → Int32 → Int32 → Option (Int32 × Mem)} {n : Nat} (hK : KOK K cL_law 19 RL wsL_law 11 N0 248) (hB : KB K) (hFl : KFl K) (hL : KL K b L xs) (hR : KLr K N0) (hrec_52 : ∀ {n : Nat} {m : Mem} {x3 : Int32} {x4 : Int32} {x5 : Int32} {x6 : Int32} {x7 : Int32} (hn : n + f * 36 ≤ N0), rec_52 m x3 x4 x5 x6 x7 = some (1, m') → AW K n 52 [(0, q_v (.ref b)), (1, q_r 0), (2, q_r 70), (3, q_i x3), (4, q_i x4), (5, q_i x5), (6, q_i x6), (7, q_i x7)] [] m) (hn : n + 36 + f * 36 ≤ N0) {m : Mem} {x4 : Int32} {x6 : Int32} {x7 : Int32} {x9 : Int32} {x13 : Int32} {s0 : Int32} (hF : B_L_law_254 N L xs rec_52 m x4 x6 x7 x9 x13 s0 = some (1, m')) : AW K (n + 35) 254 [(0, q_v (.ref b)), (1, q_r 0), (2, q_r 70), (4, q_i x4), (6, q_i x6), (7, q_i x7), (9, q_i x9), (13, q_i x13)] [q_i s0] m := by
  unfold B_L_law_254 at hF
  refine aw_istore hK [(5, q_i s0), (0, q_v (.ref b)), (1, q_r 0), (2, q_r 70), (4, q_i x4), (6, q_i x6), (7, q_i x7), (9, q_i x9), (13, q_i x13)] (by decide) rfl dL_law_254 ?_
  refine aw_iconst hK (0) rfl dL_law_256 ?_
  refine aw_istore_n hK [(3, q_i (0 : Int32)), (5, q_i s0), (0, q_v (.ref b)), (1, q_r 0), (2, q_r 70), (4, q_i x4), (6, q_i x6), (7, q_i x7), (9, q_i x9), (13, q_i x13)] (by decide) rfl dL_law_257 ?_
  refine aw_wd (n' := n + 35) (by omega) ?_
  refine aw_sub [2, 3, 4, 0, 5, 1, 6, 7, 8, 9] (lv' := [(0, q_v (.ref b)), (1, q_r 0), (2, q_r 70), (3, q_i (0 : Int32)), (4, q_i x4), (5, q_i s0), (6, q_i x6), (7, q_i x7), (9, q_i x9), (13, q_i x13)]) rfl ?_
  exact bk_L_law_258 hK hB hFl hL hR hrec_52 (by omega) hF
def B_L_law_253 (N L : Nat) (xs : Nat → Int32) (rec_52 : Mem → Int32 → Int32 → Int32 → Int32 → Int32 → Option (Int32 × Mem)) (m : Mem) (x4 : Int32) (x6 : Int32) (x7 : Int32) (x9 : Int32) (x13 : Int32) : Option (Int32 × Mem) :=
  B_L_law_254 N L xs rec_52 m x4 x6 x7 x9 x13 (0 : Int32)
set_option maxRecDepth 100000 in
set_option maxHeartbeats 40000000 in
theorem bk_L_law_253 {N b L : Nat} {xs : Nat → Int32} {K : KT} {N0 : Nat} {m' : Mem} {f : Nat} {rec_52 : Mem → Int32 → Int32 → Int32 → Int32 → Int32 → Option (Int32 × Mem)} {n : Nat} (hK : KOK K cL_law 19 RL wsL_law 11 N0 248) (hB : KB K) (hFl : KFl K) (hL : KL K b L xs) (hR : KLr K N0) (hrec_52 : ∀ {n : Nat} {m : Mem} {x3 : Int32} {x4 : Int32} {x5 : Int32} {x6 : Int32} {x7 : Int32} (hn : n + f * 36 ≤ N0), rec_52 m x3 x4 x5 x6 x7 = some (1, m') → AW K n 52 [(0, q_v (.ref b)), (1, q_r 0), (2, q_r 70), (3, q_i x3), (4, q_i x4), (5, q_i x5), (6, q_i x6), (7, q_i x7)] [] m) (hn : n + 36 + f * 36 ≤ N0) {m : Mem} {x4 : Int32} {x6 : Int32} {x7 : Int32} {x9 : Int32} {x13 : Int32} (hF : B_L_law_253 N L xs rec_52 m x4 x6 x7 x9 x13 = some (1, m')) : AW K (n + 35) 253 [(0, q_v (.ref b)), (1, q_r 0), (2, q_r 70), (4, q_i x4), (6, q_i x6), (7, q_i x7), (9, q_i x9), (13, q_i x13)] [] m := by
  unfold B_L_law_253 at hF
  refine aw_iconst hK (0) rfl dL_law_253 ?_
  refine aw_wd (n' := n + 35) (by omega) ?_
  refine aw_sub [0, 1, 2, 3, 4, 5, 6, 7] (lv' := [(0, q_v (.ref b)), (1, q_r 0), (2, q_r 70), (4, q_i x4), (6, q_i x6), (7, q_i x7), (9, q_i x9), (13, q_i x13)]) rfl ?_
  exact bk_L_law_254 hK hB hFl hL hR hrec_52 (by omega) hF
def B_L_law_216 (N L : Nat) (xs : Nat → Int32) (rec_52 : Mem → Int32 → Int32 → Int32 → Int32 → Int32 → Option (Int32 × Mem)) (m : Mem) (x3 : Int32) (x4 : Int32) (x6 : Int32) (x7 : Int32) (x9 : Int32) (x13 : Int32) (x14 : Int32) (s0 : Int32) : Option (Int32 × Mem) :=
  if (8 : Int32) ≤ x3 then (
    if s0 = (0 : Int32) then (
      B_L_law_253 N L xs rec_52 m x4 x6 x7 x9 x13
    ) else (
      cal (F_X7_clear N m) fun r14 m13 =>
      if r14 = (8 : Int32) then (
        B_L_law_254 N L xs rec_52 m13 x4 x6 x7 x9 x13 (1 : Int32)
      ) else (
        B_L_law_253 N L xs rec_52 m13 x4 x6 x7 x9 x13
      )
    )
  ) else (
    gd (inb x3 (alen 70)) <|
    bnd (mup m 70 (ix x3) x14) fun m16 =>
    bnd (x3 + (1 : Int32)) fun y17 =>
    B_L_law_258 N L xs rec_52 m16 y17 x4 s0 x6 x7 x9 x13
  )
set_option maxRecDepth 100000 in
set_option maxHeartbeats 40000000 in
theorem bk_L_law_216 {N b L : Nat} {xs : Nat → Int32} {K : KT} {N0 : Nat} {m' : Mem} {f : Nat} {rec_52 : Mem → Int32 → Int32 → Int32 → Int32 → Int32 → Option (Int32 × Mem)} {n : Nat} (hK : KOK K cL_law 19 RL wsL_law 11 N0 248) (hB : KB K) (hFl : KFl K) (hL : KL K b L xs) (hR : KLr K N0) (hrec_52 : ∀ {n : Nat} {m : Mem} {x3 : Int32} {x4 : Int32} {x5 : Int32} {x6 : Int32} {x7 : Int32} (hn : n + f * 36 ≤ N0), rec_52 m x3 x4 x5 x6 x7 = some (1, m') → AW K n 52 [(0, q_v (.ref b)), (1, q_r 0), (2, q_r 70), (3, q_i x3), (4, q_i x4), (5, q_i x5), (6, q_i x6), (7, q_i x7)] [] m) (hn : n + 36 + f * 36 ≤ N0) {m : Mem} {x3 : Int32} {x4 : Int32} {x6 : Int32} {x7 : Int32} {x9 : Int32} {x13 : Int32} {x14 : Int32} {s0 : Int32} (hF : B_L_law_216 N L xs rec_52 m x3 x4 x6 x7 x9 x13 x14 s0 = some (1, m')) : AW K (n + 35) 216 [(0, q_v (.ref b)), (1, q_r 0), (2, q_r 70), (3, q_i x3), (4, q_i x4), (6, q_i x6), (7, q_i x7), (9, q_i x9), (13, q_i x13), (14, q_i x14)] [q_i s0] m := by
  unfold B_L_law_216 at hF
  refine aw_istore hK [(5, q_i s0), (0, q_v (.ref b)), (1, q_r 0), (2, q_r 70), (3, q_i x3), (4, q_i x4), (6, q_i x6), (7, q_i x7), (9, q_i x9), (13, q_i x13), (14, q_i x14)] (by decide) rfl dL_law_216 ?_
  refine aw_iload_n hK 4 rfl dL_law_218 ?_
  refine aw_bipush hK (8) rfl dL_law_219 ?_
  refine aw_icmp_ge hK 235 rfl dL_law_221 (fun hc => ?_) (fun hc => ?_)
  · have hF := if_t hF hc
    refine aw_iload hK 0 rfl dL_law_235 ?_
    refine aw_if_eq hK 253 rfl dL_law_237 (fun hc => ?_) (fun hc => ?_)
    · have hF := if_t hF hc
      refine aw_wd (n' := n + 35) (by omega) ?_
      refine aw_sub [1, 2, 3, 5, 6, 7, 8, 9] (lv' := [(0, q_v (.ref b)), (1, q_r 0), (2, q_r 70), (4, q_i x4), (6, q_i x6), (7, q_i x7), (9, q_i x9), (13, q_i x13)]) rfl ?_
      exact bk_L_law_253 hK hB hFl hL hR hrec_52 (by omega) hF
    · have hF := if_f hF hc
      refine aw_aload_n hK 2 rfl dL_law_240 ?_
      obtain ⟨r14, m13, h12, hF⟩ := cal_some hF
      refine aw_cv hK 7 (as := []) (tr_X7_clear h12) gL_law_X7_clear rfl rfl rfl (by decide) (na := 0) (by decide +kernel) rfl ⟨by decide, by decide⟩ (by omega) (Nat.le_of_ble_eq_true rfl) dL_law_241 ?_
      refine aw_bipush hK (8) rfl dL_law_244 ?_
      refine aw_icmp_ne hK 253 rfl dL_law_246 (fun hc => ?_) (fun hc => ?_)
      · have hF := if_f hF hc
        refine aw_wd (n' := n + 35) (by omega) ?_
        refine aw_sub [1, 2, 3, 5, 6, 7, 8, 9] (lv' := [(0, q_v (.ref b)), (1, q_r 0), (2, q_r 70), (4, q_i x4), (6, q_i x6), (7, q_i x7), (9, q_i x9), (13, q_i x13)]) rfl ?_
        exact bk_L_law_253 hK hB hFl hL hR hrec_52 (by omega) hF
      · have hF := if_t hF hc
        refine aw_iconst hK (1) rfl dL_law_249 ?_
        refine aw_goto hK 254 rfl dL_law_250 ?_
        refine aw_wd (n' := n + 35) (by omega) ?_
        refine aw_sub [1, 2, 3, 5, 6, 7, 8, 9] (lv' := [(0, q_v (.ref b)), (1, q_r 0), (2, q_r 70), (4, q_i x4), (6, q_i x6), (7, q_i x7), (9, q_i x9), (13, q_i x13)]) rfl ?_
        exact bk_L_law_254 hK hB hFl hL hR hrec_52 (by omega) hF
  · have hF := if_f hF hc
    refine aw_aload_n hK 3 rfl dL_law_224 ?_
    refine aw_iload_n hK 4 rfl dL_law_225 ?_
    refine aw_iload hK 10 rfl dL_law_226 ?_
    obtain ⟨g15, hF⟩ := gd_some hF
    refine aw_iast hK rfl g15 dL_law_228 ?_
    obtain ⟨m16, hm16, hF⟩ := bnd_some hF
    refine aw_mm hm16 ?_
    obtain ⟨y17, hy17, hF⟩ := bnd_some hF
    refine aw_iinc hK (cz := 1) 4 [(3, q_i y17), (5, q_i s0), (0, q_v (.ref b)), (1, q_r 0), (2, q_r 70), (4, q_i x4), (6, q_i x6), (7, q_i x7), (9, q_i x9), (13, q_i x13), (14, q_i x14)] (by decide) rfl rfl hy17 rfl dL_law_229 ?_
    refine aw_goto hK 258 rfl dL_law_232 ?_
    refine aw_wd (n' := n + 35) (by omega) ?_
    refine aw_sub [2, 3, 4, 0, 5, 1, 6, 7, 8, 9] (lv' := [(0, q_v (.ref b)), (1, q_r 0), (2, q_r 70), (3, q_i y17), (4, q_i x4), (5, q_i s0), (6, q_i x6), (7, q_i x7), (9, q_i x9), (13, q_i x13)]) rfl ?_
    exact bk_L_law_258 hK hB hFl hL hR hrec_52 (by omega) hF
def B_L_law_208 (N L : Nat) (xs : Nat → Int32) (rec_52 : Mem → Int32 → Int32 → Int32 → Int32 → Int32 → Option (Int32 × Mem)) (m : Mem) (x3 : Int32) (x4 : Int32) (x6 : Int32) (x7 : Int32) (x9 : Int32) (x13 : Int32) (x14 : Int32) (s0 : Int32) (s1 : Int32) : Option (Int32 × Mem) :=
  if s1 = s0 then (
    B_L_law_216 N L xs rec_52 m x3 x4 x6 x7 x9 x13 x14 (1 : Int32)
  ) else (
    B_L_law_216 N L xs rec_52 m x3 x4 x6 x7 x9 x13 x14 (0 : Int32)
  )
set_option maxRecDepth 100000 in
set_option maxHeartbeats 40000000 in
theorem bk_L_law_208 {N b L : Nat} {xs : Nat → Int32} {K : KT} {N0 : Nat} {m' : Mem} {f : Nat} {rec_52 : Mem → Int32 → Int32 → Int32 → Int32 → Int32 → Option (Int32 × Mem)} {n : Nat} (hK : KOK K cL_law 19 RL wsL_law 11 N0 248) (hB : KB K) (hFl : KFl K) (hL : KL K b L xs) (hR : KLr K N0) (hrec_52 : ∀ {n : Nat} {m : Mem} {x3 : Int32} {x4 : Int32} {x5 : Int32} {x6 : Int32} {x7 : Int32} (hn : n + f * 36 ≤ N0), rec_52 m x3 x4 x5 x6 x7 = some (1, m') → AW K n 52 [(0, q_v (.ref b)), (1, q_r 0), (2, q_r 70), (3, q_i x3), (4, q_i x4), (5, q_i x5), (6, q_i x6), (7, q_i x7)] [] m) (hn : n + 36 + f * 36 ≤ N0) {m : Mem} {x3 : Int32} {x4 : Int32} {x6 : Int32} {x7 : Int32} {x9 : Int32} {x13 : Int32} {x14 : Int32} {s0 : Int32} {s1 : Int32} (hF : B_L_law_208 N L xs rec_52 m x3 x4 x6 x7 x9 x13 x14 s0 s1 = some (1, m')) : AW K (n + 35) 208 [(0, q_v (.ref b)), (1, q_r 0), (2, q_r 70), (3, q_i x3), (4, q_i x4), (6, q_i x6), (7, q_i x7), (9, q_i x9), (13, q_i x13), (14, q_i x14)] [q_i s0, q_i s1] m := by
  unfold B_L_law_208 at hF
  refine aw_icmp_ne hK 215 rfl dL_law_208 (fun hc => ?_) (fun hc => ?_)
  · have hF := if_f hF hc
    refine aw_iconst hK (0) rfl dL_law_215 ?_
    refine aw_wd (n' := n + 35) (by omega) ?_
    refine aw_sub [0, 1, 2, 3, 4, 5, 6, 7, 8, 9] (lv' := [(0, q_v (.ref b)), (1, q_r 0), (2, q_r 70), (3, q_i x3), (4, q_i x4), (6, q_i x6), (7, q_i x7), (9, q_i x9), (13, q_i x13), (14, q_i x14)]) rfl ?_
    exact bk_L_law_216 hK hB hFl hL hR hrec_52 (by omega) hF
  · have hF := if_t hF hc
    refine aw_iconst hK (1) rfl dL_law_211 ?_
    refine aw_goto hK 216 rfl dL_law_212 ?_
    refine aw_wd (n' := n + 35) (by omega) ?_
    refine aw_sub [0, 1, 2, 3, 4, 5, 6, 7, 8, 9] (lv' := [(0, q_v (.ref b)), (1, q_r 0), (2, q_r 70), (3, q_i x3), (4, q_i x4), (6, q_i x6), (7, q_i x7), (9, q_i x9), (13, q_i x13), (14, q_i x14)]) rfl ?_
    exact bk_L_law_216 hK hB hFl hL hR hrec_52 (by omega) hF
def B_L_law_159 (N L : Nat) (xs : Nat → Int32) (rec_52 : Mem → Int32 → Int32 → Int32 → Int32 → Int32 → Option (Int32 × Mem)) (m : Mem) (x3 : Int32) (x4 : Int32) (x5 : Int32) (x6 : Int32) (x7 : Int32) (x9 : Int32) (x10 : Int32) (x11 : Int32) (s0 : Int32) : Option (Int32 × Mem) :=
  if x10 = (0 : Int32) then (
    bnd (q_rem (q_shr x9 (1 : Int32)) (3 : Int32)) fun y8 =>
    cal (F_L_on N m (13 : Int32) y8 (0 : Int32) (0 : Int32) (0 : Int32) (0 : Int32)) fun r11 m10 =>
    if (8 : Int32) ≤ x3 then (
      B_L_law_208 N L xs rec_52 m10 x3 x4 x6 x7 x9 (-13 : Int32) y8 (-13 : Int32) r11
    ) else (
      B_L_law_208 N L xs rec_52 m10 x3 x4 x6 x7 x9 (-13 : Int32) y8 (x3 + (1 : Int32)) r11
    )
  ) else (
    if x10 = (1 : Int32) then (
      if ((q_shr x9 (1 : Int32)) &&& (3 : Int32)) = (3 : Int32) then (
        B_L_law_290 N L xs rec_52 m x3 x4 x5 x6 x7 x9 (8 : Int32) (0 : Int32)
      ) else (
        B_L_law_290 N L xs rec_52 m x3 x4 x5 x6 x7 x9 (q_rem (q_shr x9 (1 : Int32)) (3 : Int32)) (0 : Int32)
      )
    ) else (
      if x10 = (2 : Int32) then (
        cal (F_L_on N m ((1 : Int32) + (x9 &&& (1 : Int32))) (0 : Int32) (0 : Int32) (0 : Int32) (0 : Int32) (0 : Int32)) fun r7 m6 =>
        B_L_law_796 N L xs rec_52 m6 x3 x4 x5 x6 x7 x9 r7
      ) else (
        if (9 : Int32) ≤ x10 then (
          B_L_law_401 N L xs rec_52 m x3 x4 x5 x6 x7 x9 x10 x11 s0 (-13 : Int32)
        ) else (
          if x4 ≤ (0 : Int32) then (
            B_L_law_401 N L xs rec_52 m x3 x4 x5 x6 x7 x9 x10 x11 s0 (-13 : Int32)
          ) else (
            if x10 = (8 : Int32) then (
              B_L_law_390 N L xs rec_52 m x3 x4 x5 x6 x7 x9 ((q_shr x9 (10 : Int32)) &&& (1 : Int32)) x11 x10
            ) else (
              B_L_law_390 N L xs rec_52 m x3 x4 x5 x6 x7 x9 s0 x11 x10
            )
          )
        )
      )
    )
  )
set_option maxRecDepth 100000 in
set_option maxHeartbeats 40000000 in
theorem bk_L_law_159 {N b L : Nat} {xs : Nat → Int32} {K : KT} {N0 : Nat} {m' : Mem} {f : Nat} {rec_52 : Mem → Int32 → Int32 → Int32 → Int32 → Int32 → Option (Int32 × Mem)} {n : Nat} (hK : KOK K cL_law 19 RL wsL_law 11 N0 248) (hB : KB K) (hFl : KFl K) (hL : KL K b L xs) (hR : KLr K N0) (hrec_52 : ∀ {n : Nat} {m : Mem} {x3 : Int32} {x4 : Int32} {x5 : Int32} {x6 : Int32} {x7 : Int32} (hn : n + f * 36 ≤ N0), rec_52 m x3 x4 x5 x6 x7 = some (1, m') → AW K n 52 [(0, q_v (.ref b)), (1, q_r 0), (2, q_r 70), (3, q_i x3), (4, q_i x4), (5, q_i x5), (6, q_i x6), (7, q_i x7)] [] m) (hn : n + 36 + f * 36 ≤ N0) {m : Mem} {x3 : Int32} {x4 : Int32} {x5 : Int32} {x6 : Int32} {x7 : Int32} {x9 : Int32} {x10 : Int32} {x11 : Int32} {s0 : Int32} (hF : B_L_law_159 N L xs rec_52 m x3 x4 x5 x6 x7 x9 x10 x11 s0 = some (1, m')) : AW K (n + 0) 159 [(0, q_v (.ref b)), (1, q_r 0), (2, q_r 70), (3, q_i x3), (4, q_i x4), (5, q_i x5), (6, q_i x6), (7, q_i x7), (9, q_i x9), (10, q_i x10), (11, q_i x11)] [q_i s0] m := by
  unfold B_L_law_159 at hF
  refine aw_istore hK [(12, q_i s0), (0, q_v (.ref b)), (1, q_r 0), (2, q_r 70), (3, q_i x3), (4, q_i x4), (5, q_i x5), (6, q_i x6), (7, q_i x7), (9, q_i x9), (10, q_i x10), (11, q_i x11)] (by decide) rfl dL_law_159 ?_
  refine aw_bipush hK (-13) rfl dL_law_161 ?_
  refine aw_istore hK [(13, q_i (-13 : Int32)), (12, q_i s0), (0, q_v (.ref b)), (1, q_r 0), (2, q_r 70), (3, q_i x3), (4, q_i x4), (5, q_i x5), (6, q_i x6), (7, q_i x7), (9, q_i x9), (10, q_i x10), (11, q_i x11)] (by decide) rfl dL_law_163 ?_
  refine aw_iload hK 11 rfl dL_law_165 ?_
  refine aw_if_ne hK 261 rfl dL_law_167 (fun hc => ?_) (fun hc => ?_)
  · have hF := if_f hF hc
    refine aw_iload hK 11 rfl dL_law_261 ?_
    refine aw_iconst hK (1) rfl dL_law_263 ?_
    refine aw_icmp_ne hK 328 rfl dL_law_264 (fun hc => ?_) (fun hc => ?_)
    · have hF := if_f hF hc
      refine aw_iload hK 11 rfl dL_law_328 ?_
      refine aw_iconst hK (2) rfl dL_law_330 ?_
      refine aw_icmp_ne hK 354 rfl dL_law_331 (fun hc => ?_) (fun hc => ?_)
      · have hF := if_f hF hc
        refine aw_iload hK 11 rfl dL_law_354 ?_
        refine aw_bipush hK (9) rfl dL_law_356 ?_
        refine aw_icmp_ge hK 401 rfl dL_law_358 (fun hc => ?_) (fun hc => ?_)
        · have hF := if_t hF hc
          refine aw_wd (n' := n + 0) (by omega) ?_
          refine aw_sub [2, 3, 4, 5, 6, 7, 8, 9, 10, 11, 12, 1, 0] (lv' := [(0, q_v (.ref b)), (1, q_r 0), (2, q_r 70), (3, q_i x3), (4, q_i x4), (5, q_i x5), (6, q_i x6), (7, q_i x7), (9, q_i x9), (10, q_i x10), (11, q_i x11), (12, q_i s0), (13, q_i (-13 : Int32))]) rfl ?_
          exact bk_L_law_401 hK hB hFl hL hR hrec_52 (by omega) hF
        · have hF := if_f hF hc
          refine aw_iload hK 6 rfl dL_law_361 ?_
          refine aw_if_le hK 401 rfl dL_law_363 (fun hc => ?_) (fun hc => ?_)
          · have hF := if_t hF hc
            refine aw_wd (n' := n + 0) (by omega) ?_
            refine aw_sub [2, 3, 4, 5, 6, 7, 8, 9, 10, 11, 12, 1, 0] (lv' := [(0, q_v (.ref b)), (1, q_r 0), (2, q_r 70), (3, q_i x3), (4, q_i x4), (5, q_i x5), (6, q_i x6), (7, q_i x7), (9, q_i x9), (10, q_i x10), (11, q_i x11), (12, q_i s0), (13, q_i (-13 : Int32))]) rfl ?_
            exact bk_L_law_401 hK hB hFl hL hR hrec_52 (by omega) hF
          · have hF := if_f hF hc
            refine aw_aload_n hK 3 rfl dL_law_366 ?_
            refine aw_iload hK 11 rfl dL_law_367 ?_
            refine aw_iload hK 12 rfl dL_law_369 ?_
            refine aw_iload hK 11 rfl dL_law_371 ?_
            refine aw_bipush hK (8) rfl dL_law_373 ?_
            refine aw_icmp_ne hK 388 rfl dL_law_375 (fun hc => ?_) (fun hc => ?_)
            · have hF := if_f hF hc
              refine aw_iload hK 1 rfl dL_law_388 ?_
              refine aw_wd (n' := n + 28) (by omega) ?_
              refine aw_sub [2, 3, 4, 5, 6, 7, 8, 9, 10] (lv' := [(0, q_v (.ref b)), (1, q_r 0), (2, q_r 70), (3, q_i x3), (4, q_i x4), (5, q_i x5), (6, q_i x6), (7, q_i x7), (9, q_i x9)]) rfl ?_
              exact bk_L_law_390 hK hB hFl hL hR hrec_52 (by omega) hF
            · have hF := if_t hF hc
              refine aw_iload hK 10 rfl dL_law_378 ?_
              refine aw_bipush hK (10) rfl dL_law_380 ?_
              refine aw_ishr hK dL_law_382 ?_
              refine aw_iconst hK (1) rfl dL_law_383 ?_
              refine aw_iand hK dL_law_384 ?_
              refine aw_goto hK 390 rfl dL_law_385 ?_
              refine aw_wd (n' := n + 28) (by omega) ?_
              refine aw_sub [2, 3, 4, 5, 6, 7, 8, 9, 10] (lv' := [(0, q_v (.ref b)), (1, q_r 0), (2, q_r 70), (3, q_i x3), (4, q_i x4), (5, q_i x5), (6, q_i x6), (7, q_i x7), (9, q_i x9)]) rfl ?_
              exact bk_L_law_390 hK hB hFl hL hR hrec_52 (by omega) hF
      · have hF := if_t hF hc
        refine aw_aload_n hK 3 rfl dL_law_334 ?_
        refine aw_iconst hK (1) rfl dL_law_335 ?_
        refine aw_iload hK 10 rfl dL_law_336 ?_
        refine aw_iconst hK (1) rfl dL_law_338 ?_
        refine aw_iand hK dL_law_339 ?_
        refine aw_iadd hK dL_law_340 ?_
        refine aw_iconst hK (0) rfl dL_law_341 ?_
        refine aw_iconst hK (0) rfl dL_law_342 ?_
        refine aw_iconst hK (0) rfl dL_law_343 ?_
        refine aw_iconst hK (0) rfl dL_law_344 ?_
        refine aw_iconst hK (0) rfl dL_law_345 ?_
        obtain ⟨r7, m6, h5, hF⟩ := cal_some hF
        refine aw_csW hK hB (as := [q_r 0, q_i ((1 : Int32) + (x9 &&& (1 : Int32))), q_i (0 : Int32), q_i (0 : Int32), q_i (0 : Int32), q_i (0 : Int32), q_i (0 : Int32)]) (trW_L_on h5) gL_law_L_on rfl (na := 7) (by decide +kernel) rfl ⟨by decide, by decide⟩ (by omega) (Nat.le_of_ble_eq_true rfl) dL_law_346 ?_
        refine aw_istore hK [(13, q_i r7), (12, q_i s0), (0, q_v (.ref b)), (1, q_r 0), (2, q_r 70), (3, q_i x3), (4, q_i x4), (5, q_i x5), (6, q_i x6), (7, q_i x7), (9, q_i x9), (10, q_i x10), (11, q_i x11)] (by decide) rfl dL_law_349 ?_
        refine aw_goto hK 796 rfl dL_law_351 ?_
        refine aw_wd (n' := n + 35) (by omega) ?_
        refine aw_sub [2, 3, 4, 5, 6, 7, 8, 9, 10, 0] (lv' := [(0, q_v (.ref b)), (1, q_r 0), (2, q_r 70), (3, q_i x3), (4, q_i x4), (5, q_i x5), (6, q_i x6), (7, q_i x7), (9, q_i x9), (13, q_i r7)]) rfl ?_
        exact bk_L_law_796 hK hB hFl hL hR hrec_52 (by omega) hF
    · have hF := if_t hF hc
      refine aw_aload_n hK 3 rfl dL_law_267 ?_
      refine aw_iconst hK (0) rfl dL_law_268 ?_
      refine aw_iload hK 10 rfl dL_law_269 ?_
      refine aw_iconst hK (1) rfl dL_law_271 ?_
      refine aw_ishr hK dL_law_272 ?_
      refine aw_iconst hK (3) rfl dL_law_273 ?_
      refine aw_iand hK dL_law_274 ?_
      refine aw_iconst hK (3) rfl dL_law_275 ?_
      refine aw_icmp_ne hK 284 rfl dL_law_276 (fun hc => ?_) (fun hc => ?_)
      · have hF := if_f hF hc
        refine aw_iload hK 10 rfl dL_law_284 ?_
        refine aw_iconst hK (1) rfl dL_law_286 ?_
        refine aw_ishr hK dL_law_287 ?_
        refine aw_iconst hK (3) rfl dL_law_288 ?_
        refine aw_irem hK (by decide) dL_law_289 ?_
        refine aw_wd (n' := n + 28) (by omega) ?_
        refine aw_sub [2, 3, 4, 5, 6, 7, 8, 9, 10] (lv' := [(0, q_v (.ref b)), (1, q_r 0), (2, q_r 70), (3, q_i x3), (4, q_i x4), (5, q_i x5), (6, q_i x6), (7, q_i x7), (9, q_i x9)]) rfl ?_
        exact bk_L_law_290 hK hB hFl hL hR hrec_52 (by omega) hF
      · have hF := if_t hF hc
        refine aw_bipush hK (8) rfl dL_law_279 ?_
        refine aw_goto hK 290 rfl dL_law_281 ?_
        refine aw_wd (n' := n + 28) (by omega) ?_
        refine aw_sub [2, 3, 4, 5, 6, 7, 8, 9, 10] (lv' := [(0, q_v (.ref b)), (1, q_r 0), (2, q_r 70), (3, q_i x3), (4, q_i x4), (5, q_i x5), (6, q_i x6), (7, q_i x7), (9, q_i x9)]) rfl ?_
        exact bk_L_law_290 hK hB hFl hL hR hrec_52 (by omega) hF
  · have hF := if_t hF hc
    refine aw_iload hK 10 rfl dL_law_170 ?_
    refine aw_iconst hK (1) rfl dL_law_172 ?_
    refine aw_ishr hK dL_law_173 ?_
    refine aw_iconst hK (3) rfl dL_law_174 ?_
    refine aw_irem hK (by decide) dL_law_175 ?_
    obtain ⟨y8, hy8, hF⟩ := bnd_some hF
    refine aw_nm hy8 ?_
    refine aw_istore hK [(14, q_i y8), (13, q_i (-13 : Int32)), (12, q_i s0), (0, q_v (.ref b)), (1, q_r 0), (2, q_r 70), (3, q_i x3), (4, q_i x4), (5, q_i x5), (6, q_i x6), (7, q_i x7), (9, q_i x9), (10, q_i x10), (11, q_i x11)] (by decide) rfl dL_law_176 ?_
    refine aw_aload_n hK 4 rfl dL_law_178 ?_
    refine aw_bipush hK (13) rfl dL_law_179 ?_
    refine aw_iload hK 0 rfl dL_law_181 ?_
    refine aw_iconst hK (0) rfl dL_law_183 ?_
    refine aw_iconst hK (0) rfl dL_law_184 ?_
    refine aw_iconst hK (0) rfl dL_law_185 ?_
    refine aw_iconst hK (0) rfl dL_law_186 ?_
    obtain ⟨r11, m10, h9, hF⟩ := cal_some hF
    refine aw_csW hK hB (as := [q_r 0, q_i (13 : Int32), q_i y8, q_i (0 : Int32), q_i (0 : Int32), q_i (0 : Int32), q_i (0 : Int32)]) (trW_L_on h9) gL_law_L_on rfl (na := 7) (by decide +kernel) rfl ⟨by decide, by decide⟩ (by omega) (Nat.le_of_ble_eq_true rfl) dL_law_187 ?_
    refine aw_istore hK [(15, q_i r11), (14, q_i y8), (13, q_i (-13 : Int32)), (12, q_i s0), (0, q_v (.ref b)), (1, q_r 0), (2, q_r 70), (3, q_i x3), (4, q_i x4), (5, q_i x5), (6, q_i x6), (7, q_i x7), (9, q_i x9), (10, q_i x10), (11, q_i x11)] (by decide) rfl dL_law_190 ?_
    refine aw_iload hK 0 rfl dL_law_192 ?_
    refine aw_iload_n hK 7 rfl dL_law_194 ?_
    refine aw_bipush hK (8) rfl dL_law_195 ?_
    refine aw_icmp_ge hK 206 rfl dL_law_197 (fun hc => ?_) (fun hc => ?_)
    · have hF := if_t hF hc
      refine aw_bipush hK (-13) rfl dL_law_206 ?_
      refine aw_wd (n' := n + 35) (by omega) ?_
      refine aw_sub [4, 5, 6, 7, 8, 10, 11, 12, 2, 1] (lv' := [(0, q_v (.ref b)), (1, q_r 0), (2, q_r 70), (3, q_i x3), (4, q_i x4), (6, q_i x6), (7, q_i x7), (9, q_i x9), (13, q_i (-13 : Int32)), (14, q_i y8)]) rfl ?_
      exact bk_L_law_208 hK hB hFl hL hR hrec_52 (by omega) hF
    · have hF := if_f hF hc
      refine aw_iload_n hK 7 rfl dL_law_200 ?_
      refine aw_iconst hK (1) rfl dL_law_201 ?_
      refine aw_iadd hK dL_law_202 ?_
      refine aw_goto hK 208 rfl dL_law_203 ?_
      refine aw_wd (n' := n + 35) (by omega) ?_
      refine aw_sub [4, 5, 6, 7, 8, 10, 11, 12, 2, 1] (lv' := [(0, q_v (.ref b)), (1, q_r 0), (2, q_r 70), (3, q_i x3), (4, q_i x4), (6, q_i x6), (7, q_i x7), (9, q_i x9), (13, q_i (-13 : Int32)), (14, q_i y8)]) rfl ?_
      exact bk_L_law_208 hK hB hFl hL hR hrec_52 (by omega) hF
def B_L_law_141 (N L : Nat) (xs : Nat → Int32) (rec_52 : Mem → Int32 → Int32 → Int32 → Int32 → Int32 → Option (Int32 × Mem)) (m : Mem) (x3 : Int32) (x4 : Int32) (x5 : Int32) (x6 : Int32) (x7 : Int32) (x9 : Int32) (x10 : Int32) (s0 : Int32) : Option (Int32 × Mem) :=
  if x4 = (0 : Int32) then (
    B_L_law_159 N L xs rec_52 m x3 x4 x5 x6 x7 x9 x10 s0 (0 : Int32)
  ) else (
    gd (x4 != 0) <|
    B_L_law_159 N L xs rec_52 m x3 x4 x5 x6 x7 x9 x10 s0 (q_rem (q_shr x9 (5 : Int32)) x4)
  )
set_option maxRecDepth 100000 in
set_option maxHeartbeats 40000000 in
theorem bk_L_law_141 {N b L : Nat} {xs : Nat → Int32} {K : KT} {N0 : Nat} {m' : Mem} {f : Nat} {rec_52 : Mem → Int32 → Int32 → Int32 → Int32 → Int32 → Option (Int32 × Mem)} {n : Nat} (hK : KOK K cL_law 19 RL wsL_law 11 N0 248) (hB : KB K) (hFl : KFl K) (hL : KL K b L xs) (hR : KLr K N0) (hrec_52 : ∀ {n : Nat} {m : Mem} {x3 : Int32} {x4 : Int32} {x5 : Int32} {x6 : Int32} {x7 : Int32} (hn : n + f * 36 ≤ N0), rec_52 m x3 x4 x5 x6 x7 = some (1, m') → AW K n 52 [(0, q_v (.ref b)), (1, q_r 0), (2, q_r 70), (3, q_i x3), (4, q_i x4), (5, q_i x5), (6, q_i x6), (7, q_i x7)] [] m) (hn : n + 36 + f * 36 ≤ N0) {m : Mem} {x3 : Int32} {x4 : Int32} {x5 : Int32} {x6 : Int32} {x7 : Int32} {x9 : Int32} {x10 : Int32} {s0 : Int32} (hF : B_L_law_141 N L xs rec_52 m x3 x4 x5 x6 x7 x9 x10 s0 = some (1, m')) : AW K (n + 0) 141 [(0, q_v (.ref b)), (1, q_r 0), (2, q_r 70), (3, q_i x3), (4, q_i x4), (5, q_i x5), (6, q_i x6), (7, q_i x7), (9, q_i x9), (10, q_i x10)] [q_i s0] m := by
  unfold B_L_law_141 at hF
  refine aw_istore hK [(11, q_i s0), (0, q_v (.ref b)), (1, q_r 0), (2, q_r 70), (3, q_i x3), (4, q_i x4), (5, q_i x5), (6, q_i x6), (7, q_i x7), (9, q_i x9), (10, q_i x10)] (by decide) rfl dL_law_141 ?_
  refine aw_iload hK 5 rfl dL_law_143 ?_
  refine aw_if_ne hK 152 rfl dL_law_145 (fun hc => ?_) (fun hc => ?_)
  · have hF := if_f hF hc
    refine aw_iload hK 9 rfl dL_law_152 ?_
    refine aw_iconst hK (5) rfl dL_law_154 ?_
    refine aw_ishr hK dL_law_155 ?_
    refine aw_iload hK 5 rfl dL_law_156 ?_
    obtain ⟨g4, hF⟩ := gd_some hF
    refine aw_irem hK (bne_iff_ne.mp g4) dL_law_158 ?_
    refine aw_wd (n' := n + 0) (by omega) ?_
    refine aw_sub [1, 2, 3, 4, 5, 6, 7, 8, 9, 10, 0] (lv' := [(0, q_v (.ref b)), (1, q_r 0), (2, q_r 70), (3, q_i x3), (4, q_i x4), (5, q_i x5), (6, q_i x6), (7, q_i x7), (9, q_i x9), (10, q_i x10), (11, q_i s0)]) rfl ?_
    exact bk_L_law_159 hK hB hFl hL hR hrec_52 (by omega) hF
  · have hF := if_t hF hc
    refine aw_iconst hK (0) rfl dL_law_148 ?_
    refine aw_goto hK 159 rfl dL_law_149 ?_
    refine aw_wd (n' := n + 0) (by omega) ?_
    refine aw_sub [1, 2, 3, 4, 5, 6, 7, 8, 9, 10, 0] (lv' := [(0, q_v (.ref b)), (1, q_r 0), (2, q_r 70), (3, q_i x3), (4, q_i x4), (5, q_i x5), (6, q_i x6), (7, q_i x7), (9, q_i x9), (10, q_i x10), (11, q_i s0)]) rfl ?_
    exact bk_L_law_159 hK hB hFl hL hR hrec_52 (by omega) hF
def B_L_law_125 (N L : Nat) (xs : Nat → Int32) (rec_52 : Mem → Int32 → Int32 → Int32 → Int32 → Int32 → Option (Int32 × Mem)) (m : Mem) (x3 : Int32) (x4 : Int32) (x5 : Int32) (x6 : Int32) (x7 : Int32) (x9 : Int32) (s0 : Int32) : Option (Int32 × Mem) :=
  if x4 = (0 : Int32) then (
    B_L_law_141 N L xs rec_52 m x3 x4 x5 x6 x7 x9 s0 (0 : Int32)
  ) else (
    gd (x4 != 0) <|
    B_L_law_141 N L xs rec_52 m x3 x4 x5 x6 x7 x9 s0 (q_rem x9 x4)
  )
set_option maxRecDepth 100000 in
set_option maxHeartbeats 40000000 in
theorem bk_L_law_125 {N b L : Nat} {xs : Nat → Int32} {K : KT} {N0 : Nat} {m' : Mem} {f : Nat} {rec_52 : Mem → Int32 → Int32 → Int32 → Int32 → Int32 → Option (Int32 × Mem)} {n : Nat} (hK : KOK K cL_law 19 RL wsL_law 11 N0 248) (hB : KB K) (hFl : KFl K) (hL : KL K b L xs) (hR : KLr K N0) (hrec_52 : ∀ {n : Nat} {m : Mem} {x3 : Int32} {x4 : Int32} {x5 : Int32} {x6 : Int32} {x7 : Int32} (hn : n + f * 36 ≤ N0), rec_52 m x3 x4 x5 x6 x7 = some (1, m') → AW K n 52 [(0, q_v (.ref b)), (1, q_r 0), (2, q_r 70), (3, q_i x3), (4, q_i x4), (5, q_i x5), (6, q_i x6), (7, q_i x7)] [] m) (hn : n + 36 + f * 36 ≤ N0) {m : Mem} {x3 : Int32} {x4 : Int32} {x5 : Int32} {x6 : Int32} {x7 : Int32} {x9 : Int32} {s0 : Int32} (hF : B_L_law_125 N L xs rec_52 m x3 x4 x5 x6 x7 x9 s0 = some (1, m')) : AW K (n + 0) 125 [(0, q_v (.ref b)), (1, q_r 0), (2, q_r 70), (3, q_i x3), (4, q_i x4), (5, q_i x5), (6, q_i x6), (7, q_i x7), (9, q_i x9)] [q_i s0] m := by
  unfold B_L_law_125 at hF
  refine aw_istore hK [(10, q_i s0), (0, q_v (.ref b)), (1, q_r 0), (2, q_r 70), (3, q_i x3), (4, q_i x4), (5, q_i x5), (6, q_i x6), (7, q_i x7), (9, q_i x9)] (by decide) rfl dL_law_125 ?_
  refine aw_iload hK 5 rfl dL_law_127 ?_
  refine aw_if_ne hK 136 rfl dL_law_129 (fun hc => ?_) (fun hc => ?_)
  · have hF := if_f hF hc
    refine aw_iload hK 9 rfl dL_law_136 ?_
    refine aw_iload hK 5 rfl dL_law_138 ?_
    obtain ⟨g3, hF⟩ := gd_some hF
    refine aw_irem hK (bne_iff_ne.mp g3) dL_law_140 ?_
    refine aw_wd (n' := n + 0) (by omega) ?_
    refine aw_sub [1, 2, 3, 4, 5, 6, 7, 8, 9, 0] (lv' := [(0, q_v (.ref b)), (1, q_r 0), (2, q_r 70), (3, q_i x3), (4, q_i x4), (5, q_i x5), (6, q_i x6), (7, q_i x7), (9, q_i x9), (10, q_i s0)]) rfl ?_
    exact bk_L_law_141 hK hB hFl hL hR hrec_52 (by omega) hF
  · have hF := if_t hF hc
    refine aw_iconst hK (0) rfl dL_law_132 ?_
    refine aw_goto hK 141 rfl dL_law_133 ?_
    refine aw_wd (n' := n + 0) (by omega) ?_
    refine aw_sub [1, 2, 3, 4, 5, 6, 7, 8, 9, 0] (lv' := [(0, q_v (.ref b)), (1, q_r 0), (2, q_r 70), (3, q_i x3), (4, q_i x4), (5, q_i x5), (6, q_i x6), (7, q_i x7), (9, q_i x9), (10, q_i s0)]) rfl ?_
    exact bk_L_law_141 hK hB hFl hL hR hrec_52 (by omega) hF
def B_L_law_96 (N L : Nat) (xs : Nat → Int32) (rec_52 : Mem → Int32 → Int32 → Int32 → Int32 → Int32 → Option (Int32 × Mem)) (m : Mem) (x3 : Int32) (x4 : Int32) (x5 : Int32) (x6 : Int32) (x7 : Int32) (s0 : Int32) : Option (Int32 × Mem) :=
  bnd ((q_shr s0 (4 : Int32)) &&& (268435455 : Int32)) fun y2 =>
  if (4 : Int32) ≤ x7 then (
    B_L_law_125 N L xs rec_52 m x3 x4 x5 x6 x7 y2 (s0 &&& (15 : Int32))
  ) else (
    B_L_law_125 N L xs rec_52 m x3 x4 x5 x6 x7 y2 (q_rem x7 (2 : Int32))
  )
set_option maxRecDepth 100000 in
set_option maxHeartbeats 40000000 in
theorem bk_L_law_96 {N b L : Nat} {xs : Nat → Int32} {K : KT} {N0 : Nat} {m' : Mem} {f : Nat} {rec_52 : Mem → Int32 → Int32 → Int32 → Int32 → Int32 → Option (Int32 × Mem)} {n : Nat} (hK : KOK K cL_law 19 RL wsL_law 11 N0 248) (hB : KB K) (hFl : KFl K) (hL : KL K b L xs) (hR : KLr K N0) (hrec_52 : ∀ {n : Nat} {m : Mem} {x3 : Int32} {x4 : Int32} {x5 : Int32} {x6 : Int32} {x7 : Int32} (hn : n + f * 36 ≤ N0), rec_52 m x3 x4 x5 x6 x7 = some (1, m') → AW K n 52 [(0, q_v (.ref b)), (1, q_r 0), (2, q_r 70), (3, q_i x3), (4, q_i x4), (5, q_i x5), (6, q_i x6), (7, q_i x7)] [] m) (hn : n + 36 + f * 36 ≤ N0) {m : Mem} {x3 : Int32} {x4 : Int32} {x5 : Int32} {x6 : Int32} {x7 : Int32} {s0 : Int32} (hF : B_L_law_96 N L xs rec_52 m x3 x4 x5 x6 x7 s0 = some (1, m')) : AW K (n + 0) 96 [(0, q_v (.ref b)), (1, q_r 0), (2, q_r 70), (3, q_i x3), (4, q_i x4), (5, q_i x5), (6, q_i x6), (7, q_i x7)] [q_i s0] m := by
  unfold B_L_law_96 at hF
  refine aw_istore hK [(8, q_i s0), (0, q_v (.ref b)), (1, q_r 0), (2, q_r 70), (3, q_i x3), (4, q_i x4), (5, q_i x5), (6, q_i x6), (7, q_i x7)] (by decide) rfl dL_law_96 ?_
  refine aw_iload hK 0 rfl dL_law_98 ?_
  refine aw_iconst hK (4) rfl dL_law_100 ?_
  refine aw_ishr hK dL_law_101 ?_
  refine aw_ldc hK (268435455) (List.mem_of_getElem? (i := 6) rfl) dL_law_102 ?_
  refine aw_iand hK dL_law_104 ?_
  obtain ⟨y2, hy2, hF⟩ := bnd_some hF
  refine aw_nm hy2 ?_
  refine aw_istore hK [(9, q_i y2), (8, q_i s0), (0, q_v (.ref b)), (1, q_r 0), (2, q_r 70), (3, q_i x3), (4, q_i x4), (5, q_i x5), (6, q_i x6), (7, q_i x7)] (by decide) rfl dL_law_105 ?_
  refine aw_iload hK 9 rfl dL_law_107 ?_
  refine aw_iconst hK (4) rfl dL_law_109 ?_
  refine aw_icmp_ge hK 120 rfl dL_law_110 (fun hc => ?_) (fun hc => ?_)
  · have hF := if_t hF hc
    refine aw_iload hK 1 rfl dL_law_120 ?_
    refine aw_bipush hK (15) rfl dL_law_122 ?_
    refine aw_iand hK dL_law_124 ?_
    refine aw_wd (n' := n + 0) (by omega) ?_
    refine aw_sub [2, 3, 4, 5, 6, 7, 8, 9, 0] (lv' := [(0, q_v (.ref b)), (1, q_r 0), (2, q_r 70), (3, q_i x3), (4, q_i x4), (5, q_i x5), (6, q_i x6), (7, q_i x7), (9, q_i y2)]) rfl ?_
    exact bk_L_law_125 hK hB hFl hL hR hrec_52 (by omega) hF
  · have hF := if_f hF hc
    refine aw_iload hK 9 rfl dL_law_113 ?_
    refine aw_iconst hK (2) rfl dL_law_115 ?_
    refine aw_irem hK (by decide) dL_law_116 ?_
    refine aw_goto hK 125 rfl dL_law_117 ?_
    refine aw_wd (n' := n + 0) (by omega) ?_
    refine aw_sub [2, 3, 4, 5, 6, 7, 8, 9, 0] (lv' := [(0, q_v (.ref b)), (1, q_r 0), (2, q_r 70), (3, q_i x3), (4, q_i x4), (5, q_i x5), (6, q_i x6), (7, q_i x7), (9, q_i y2)]) rfl ?_
    exact bk_L_law_125 hK hB hFl hL hR hrec_52 (by omega) hF
def S_L_law_52 (N L : Nat) (xs : Nat → Int32) (rec_52 : Mem → Int32 → Int32 → Int32 → Int32 → Int32 → Option (Int32 × Mem)) (m : Mem) (x3 : Int32) (x4 : Int32) (x5 : Int32) (x6 : Int32) (x7 : Int32) : Option (Int32 × Mem) :=
  if x6 ≤ x7 then (
    B_L_law_1029 N L xs m x5
  ) else (
    if x5 = (0 : Int32) then (
      B_L_law_1029 N L xs m x5
    ) else (
      if (nI L) ≤ x7 then (
        B_L_law_96 N L xs rec_52 m x3 x4 x5 x6 x7 (((((3550017 : Int32) * x7) * x7) + ((126079 : Int32) * x7)) + (263 : Int32))
      ) else (
        gd (inb x7 L) <|
        B_L_law_96 N L xs rec_52 m x3 x4 x5 x6 x7 (xs (ix x7))
      )
    )
  )
def L_L_law_52 (N L : Nat) (xs : Nat → Int32) : Nat → Mem → Int32 → Int32 → Int32 → Int32 → Int32 → Option (Int32 × Mem)
  | 0 => fun _ _ _ _ _ _ => none
  | f + 1 => S_L_law_52 N L xs (L_L_law_52 N L xs f)
set_option maxRecDepth 100000 in
set_option maxHeartbeats 40000000 in
theorem lp_L_law_52 {N b L : Nat} {xs : Nat → Int32} {K : KT} {N0 : Nat} {m' : Mem} (hK : KOK K cL_law 19 RL wsL_law 11 N0 248) (hB : KB K) (hFl : KFl K) (hL : KL K b L xs) (hR : KLr K N0) : ∀ (f : Nat) {n : Nat} {m : Mem} {x3 : Int32} {x4 : Int32} {x5 : Int32} {x6 : Int32} {x7 : Int32} (hn : n + f * 36 ≤ N0), L_L_law_52 N L xs f m x3 x4 x5 x6 x7 = some (1, m') → AW K n 52 [(0, q_v (.ref b)), (1, q_r 0), (2, q_r 70), (3, q_i x3), (4, q_i x4), (5, q_i x5), (6, q_i x6), (7, q_i x7)] [] m := by
  intro f
  induction f with
  | zero => intro n m x3 x4 x5 x6 x7 hn hF; cases hF
  | succ f hrec_52 =>
    intro n m x3 x4 x5 x6 x7 hn hF
    have hF : S_L_law_52 N L xs (L_L_law_52 N L xs f) m x3 x4 x5 x6 x7 = some (1, m') := hF
    unfold S_L_law_52 at hF
    refine aw_iload hK 7 rfl dL_law_52 ?_
    refine aw_iload hK 6 rfl dL_law_54 ?_
    refine aw_icmp_ge hK 1029 rfl dL_law_56 (fun hc => ?_) (fun hc => ?_)
    · have hF := if_t hF hc
      refine aw_sub [5] (lv' := [(5, q_i x5)]) rfl ?_
      exact bk_L_law_1029 hK hB hFl hL hR (by omega) hF
    · have hF := if_f hF hc
      refine aw_iload hK 5 rfl dL_law_59 ?_
      refine aw_if_eq hK 1029 rfl dL_law_61 (fun hc => ?_) (fun hc => ?_)
      · have hF := if_t hF hc
        refine aw_sub [5] (lv' := [(5, q_i x5)]) rfl ?_
        exact bk_L_law_1029 hK hB hFl hL hR (by omega) hF
      · have hF := if_f hF hc
        refine aw_iload hK 7 rfl dL_law_64 ?_
        refine aw_aloadV_n hK 0 rfl dL_law_66 ?_
        refine aw_slen hK hL dL_law_67 ?_
        refine aw_icmp_ge hK 78 rfl dL_law_68 (fun hc => ?_) (fun hc => ?_)
        · have hF := if_t hF hc
          refine aw_ldc hK (3550017) (List.mem_of_getElem? (i := 4) rfl) dL_law_78 ?_
          refine aw_iload hK 7 rfl dL_law_80 ?_
          refine aw_imul hK dL_law_82 ?_
          refine aw_iload hK 7 rfl dL_law_83 ?_
          refine aw_imul hK dL_law_85 ?_
          refine aw_ldc hK (126079) (List.mem_of_getElem? (i := 5) rfl) dL_law_86 ?_
          refine aw_iload hK 7 rfl dL_law_88 ?_
          refine aw_imul hK dL_law_90 ?_
          refine aw_iadd hK dL_law_91 ?_
          refine aw_sipush hK (263) rfl dL_law_92 ?_
          refine aw_iadd hK dL_law_95 ?_
          refine aw_wd (n' := n + 0) (by omega) ?_
          refine aw_sub [0, 1, 2, 3, 4, 5, 6, 7] (lv' := [(0, q_v (.ref b)), (1, q_r 0), (2, q_r 70), (3, q_i x3), (4, q_i x4), (5, q_i x5), (6, q_i x6), (7, q_i x7)]) rfl ?_
          exact bk_L_law_96 hK hB hFl hL hR hrec_52 (by omega) hF
        · have hF := if_f hF hc
          refine aw_aloadV_n hK 0 rfl dL_law_71 ?_
          refine aw_iload hK 7 rfl dL_law_72 ?_
          obtain ⟨g1, hF⟩ := gd_some hF
          refine aw_sld hK hL g1 dL_law_74 ?_
          refine aw_goto hK 96 rfl dL_law_75 ?_
          refine aw_wd (n' := n + 0) (by omega) ?_
          refine aw_sub [0, 1, 2, 3, 4, 5, 6, 7] (lv' := [(0, q_v (.ref b)), (1, q_r 0), (2, q_r 70), (3, q_i x3), (4, q_i x4), (5, q_i x5), (6, q_i x6), (7, q_i x7)]) rfl ?_
          exact bk_L_law_96 hK hB hFl hL hR hrec_52 (by omega) hF
def B_L_law_47 (N L : Nat) (xs : Nat → Int32) (m : Mem) (x3 : Int32) (x4 : Int32) (x5 : Int32) (s0 : Int32) : Option (Int32 × Mem) :=
  L_L_law_52 N L xs 128 m x3 x4 x5 s0 (0 : Int32)
set_option maxRecDepth 100000 in
set_option maxHeartbeats 40000000 in
theorem bk_L_law_47 {N b L : Nat} {xs : Nat → Int32} {K : KT} {N0 : Nat} {m' : Mem} {n : Nat} (hK : KOK K cL_law 19 RL wsL_law 11 N0 248) (hB : KB K) (hFl : KFl K) (hL : KL K b L xs) (hR : KLr K N0) (hn : n + 128 * 36 ≤ N0) {m : Mem} {x3 : Int32} {x4 : Int32} {x5 : Int32} {s0 : Int32} (hF : B_L_law_47 N L xs m x3 x4 x5 s0 = some (1, m')) : AW K n 47 [(0, q_v (.ref b)), (1, q_r 0), (2, q_r 70), (3, q_i x3), (4, q_i x4), (5, q_i x5)] [q_i s0] m := by
  unfold B_L_law_47 at hF
  refine aw_istore hK [(6, q_i s0), (0, q_v (.ref b)), (1, q_r 0), (2, q_r 70), (3, q_i x3), (4, q_i x4), (5, q_i x5)] (by decide) rfl dL_law_47 ?_
  refine aw_iconst hK (0) rfl dL_law_49 ?_
  refine aw_istore hK [(7, q_i (0 : Int32)), (6, q_i s0), (0, q_v (.ref b)), (1, q_r 0), (2, q_r 70), (3, q_i x3), (4, q_i x4), (5, q_i x5)] (by decide) rfl dL_law_50 ?_
  refine aw_sub [2, 3, 4, 5, 6, 7, 1, 0] (lv' := [(0, q_v (.ref b)), (1, q_r 0), (2, q_r 70), (3, q_i x3), (4, q_i x4), (5, q_i x5), (6, q_i s0), (7, q_i (0 : Int32))]) rfl ?_
  exact lp_L_law_52 hK hB hFl hL hR 128 (by omega) hF
def F_L_law (N L : Nat) (xs : Nat → Int32) (m : Mem) : Option (Int32 × Mem) :=
  if (40 : Int32) ≤ (nI L) then (
    if (90 : Int32) ≤ (nI L) then (
      B_L_law_47 N L xs m (0 : Int32) (0 : Int32) (1 : Int32) (100 : Int32)
    ) else (
      B_L_law_47 N L xs m (0 : Int32) (0 : Int32) (1 : Int32) (nI L)
    )
  ) else (
    B_L_law_47 N L xs m (0 : Int32) (0 : Int32) (1 : Int32) (60 : Int32)
  )
set_option maxRecDepth 100000 in
set_option maxHeartbeats 40000000 in
theorem en_L_law {N b L : Nat} {xs : Nat → Int32} {K : KT} {N0 : Nat} {m' : Mem} (hK : KOK K cL_law 19 RL wsL_law 11 N0 248) (hB : KB K) (hFl : KFl K) (hL : KL K b L xs) (hR : KLr K N0) {n : Nat} (hn : n + 128 * 36 ≤ N0) {m : Mem} (hF : F_L_law N L xs m = some (1, m')) : AW K n 13 [(2, q_r 70), (1, q_r 0), (0, q_v (.ref b))] [] m := by
  unfold F_L_law at hF
  refine aw_iconst hK (0) rfl dL_law_13 ?_
  refine aw_istore_n hK [(3, q_i (0 : Int32)), (2, q_r 70), (1, q_r 0), (0, q_v (.ref b))] (by decide) rfl dL_law_14 ?_
  refine aw_iconst hK (0) rfl dL_law_15 ?_
  refine aw_istore hK [(4, q_i (0 : Int32)), (3, q_i (0 : Int32)), (2, q_r 70), (1, q_r 0), (0, q_v (.ref b))] (by decide) rfl dL_law_16 ?_
  refine aw_iconst hK (1) rfl dL_law_18 ?_
  refine aw_istore hK [(5, q_i (1 : Int32)), (4, q_i (0 : Int32)), (3, q_i (0 : Int32)), (2, q_r 70), (1, q_r 0), (0, q_v (.ref b))] (by decide) rfl dL_law_19 ?_
  refine aw_aloadV_n hK 5 rfl dL_law_21 ?_
  refine aw_slen hK hL dL_law_22 ?_
  refine aw_bipush hK (40) rfl dL_law_23 ?_
  refine aw_icmp_ge hK 33 rfl dL_law_25 (fun hc => ?_) (fun hc => ?_)
  · have hF := if_t hF hc
    refine aw_aloadV_n hK 5 rfl dL_law_33 ?_
    refine aw_slen hK hL dL_law_34 ?_
    refine aw_bipush hK (90) rfl dL_law_35 ?_
    refine aw_icmp_ge hK 45 rfl dL_law_37 (fun hc => ?_) (fun hc => ?_)
    · have hF := if_t hF hc
      refine aw_bipush hK (100) rfl dL_law_45 ?_
      refine aw_sub [5, 4, 3, 2, 1, 0] (lv' := [(0, q_v (.ref b)), (1, q_r 0), (2, q_r 70), (3, q_i (0 : Int32)), (4, q_i (0 : Int32)), (5, q_i (1 : Int32))]) rfl ?_
      exact bk_L_law_47 hK hB hFl hL hR (by omega) hF
    · have hF := if_f hF hc
      refine aw_aloadV_n hK 5 rfl dL_law_40 ?_
      refine aw_slen hK hL dL_law_41 ?_
      refine aw_goto hK 47 rfl dL_law_42 ?_
      refine aw_sub [5, 4, 3, 2, 1, 0] (lv' := [(0, q_v (.ref b)), (1, q_r 0), (2, q_r 70), (3, q_i (0 : Int32)), (4, q_i (0 : Int32)), (5, q_i (1 : Int32))]) rfl ?_
      exact bk_L_law_47 hK hB hFl hL hR (by omega) hF
  · have hF := if_f hF hc
    refine aw_bipush hK (60) rfl dL_law_28 ?_
    refine aw_goto hK 47 rfl dL_law_30 ?_
    refine aw_sub [5, 4, 3, 2, 1, 0] (lv' := [(0, q_v (.ref b)), (1, q_r 0), (2, q_r 70), (3, q_i (0 : Int32)), (4, q_i (0 : Int32)), (5, q_i (1 : Int32))]) rfl ?_
    exact bk_L_law_47 hK hB hFl hL hR (by omega) hF