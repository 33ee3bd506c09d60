def P_X7_isLetter (x0 : Int32) : Int32 :=
  if x0 < (0 : Int32) then (
    (0 : Int32)
  ) else (
    if (8 : Int32) ≤ x0 then (
      (0 : Int32)
    ) else (
      (1 : Int32)
    )
  )
def F_X7_isLetter (m : Mem) (x0 : Int32) : Option (Int32 × Mem) :=
  if x0 < (0 : Int32) then (
    some ((0 : Int32), m)
  ) else (
    if (8 : Int32) ≤ x0 then (
      some ((0 : Int32), m)
    ) else (
      some ((1 : Int32), m)
    )
  )
set_option maxRecDepth 100000 in
set_option maxHeartbeats 4000000 in
theorem tr_X7_isLetter {m m' : Mem} {r : Int32} {x0 : Int32} (hF : F_X7_isLetter m x0 = some (r, m')) : Tr yX7_isLetter wsX7_isLetter 0 0 [q_i x0] m (some r) m' := by
  refine tr_of (bytes := cX7_isLetter) (maxL := 1) (ret := (some .boolean)) (by decide) rfl (Nat.le_of_ble_eq_true rfl) (fun K hK hR => ?_)
  have hK : KOK K cX7_isLetter 1 RX7 wsX7_isLetter 0 0 0 := hK
  show AW K 0 0 [(0, q_i x0)] [] m
  unfold F_X7_isLetter at hF
  refine aw_iload_n hK 0 rfl dX7_isLetter_0 ?_
  refine aw_if_lt hK 14 rfl dX7_isLetter_1 (fun hc => ?_) (fun hc => ?_)
  · have hF := if_t hF hc
    refine aw_iconst hK (0) rfl dX7_isLetter_14 ?_
    obtain ⟨rfl, rfl⟩ := so_inj hF
    exact aw_iret hK hR rfl dX7_isLetter_15
  · have hF := if_f hF hc
    refine aw_iload_n hK 0 rfl dX7_isLetter_4 ?_
    refine aw_bipush hK (8) rfl dX7_isLetter_5 ?_
    refine aw_icmp_ge hK 14 rfl dX7_isLetter_7 (fun hc => ?_) (fun hc => ?_)
    · have hF := if_t hF hc
      refine aw_iconst hK (0) rfl dX7_isLetter_14 ?_
      obtain ⟨rfl, rfl⟩ := so_inj hF
      exact aw_iret hK hR rfl dX7_isLetter_15
    · have hF := if_f hF hc
      refine aw_iconst hK (1) rfl dX7_isLetter_10 ?_
      refine aw_goto hK 15 rfl dX7_isLetter_11 ?_
      obtain ⟨rfl, rfl⟩ := so_inj hF
      exact aw_iret hK hR rfl dX7_isLetter_15
theorem pb_X7_isLetter (x0 : Int32) : isb (P_X7_isLetter x0) = true := by
  simp only [P_X7_isLetter]
  repeat (first | rfl | split)
theorem fp_X7_isLetter (m : Mem) (x0 : Int32) : F_X7_isLetter m x0 = some (P_X7_isLetter x0, m) := by
  simp only [F_X7_isLetter, P_X7_isLetter]
  repeat (first | rfl | split)
theorem trp_X7_isLetter (x0 : Int32) (m : Mem) : Tr yX7_isLetter wsX7_isLetter 0 0 [q_i x0] m (some (P_X7_isLetter x0)) m := tr_X7_isLetter (fp_X7_isLetter m x0)
def F_X7_clear (N : Nat) (m : Mem) : Option (Int32 × Mem) :=
  bnd (m 0 1) fun y1 =>
  bnd (mup m 0 1 (0 : Int32)) fun m2 =>
  some (y1, m2)
set_option maxRecDepth 100000 in
set_option maxHeartbeats 4000000 in
theorem tr_X7_clear {N : Nat} {m m' : Mem} {r : Int32} (hF : F_X7_clear N m = some (r, m')) : Tr yX7_clear wsX7_clear 0 0 [q_r 0] m (some r) m' := by
  refine tr_of (bytes := cX7_clear) (maxL := 2) (ret := (some .int)) (by decide) rfl (Nat.le_of_ble_eq_true rfl) (fun K hK hR => ?_)
  have hK : KOK K cX7_clear 2 RX7 wsX7_clear 0 0 0 := hK
  show AW K 0 0 [(0, q_r 0)] [] m
  unfold F_X7_clear at hF
  refine aw_aload_n hK 0 rfl dX7_clear_0 ?_
  refine gf_7_1 hK rfl (List.mem_of_getElem? (i := 1) rfl) dX7_clear_1 ?_
  obtain ⟨y1, hy1, hF⟩ := bnd_some hF
  refine aw_nm hy1 ?_
  refine aw_istore_n hK [(1, q_i y1), (0, q_r 0)] (by decide) rfl dX7_clear_4 ?_
  refine aw_aload_n hK 1 rfl dX7_clear_5 ?_
  refine aw_iconst hK (0) rfl dX7_clear_6 ?_
  refine pf_7_1 hK rfl (List.mem_of_getElem? (i := 1) rfl) dX7_clear_7 ?_
  obtain ⟨m2, hm2, hF⟩ := bnd_some hF
  refine aw_mm hm2 ?_
  refine aw_iload_n hK 0 rfl dX7_clear_10 ?_
  obtain ⟨rfl, rfl⟩ := so_inj hF
  exact aw_iret hK hR rfl dX7_clear_11
def P_X7_isLetterOrEmpty (x0 : Int32) : Int32 :=
  if (P_X7_isLetter x0) = (0 : Int32) then (
    if x0 = (8 : Int32) then (
      (1 : Int32)
    ) else (
      (0 : Int32)
    )
  ) else (
    (1 : Int32)
  )
def F_X7_isLetterOrEmpty (m : Mem) (x0 : Int32) : Option (Int32 × Mem) :=
  if (P_X7_isLetter x0) = (0 : Int32) then (
    if x0 = (8 : Int32) then (
      some ((1 : Int32), m)
    ) else (
      some ((0 : Int32), m)
    )
  ) else (
    some ((1 : Int32), m)
  )
set_option maxRecDepth 100000 in
set_option maxHeartbeats 4000000 in
theorem tr_X7_isLetterOrEmpty {m m' : Mem} {r : Int32} {x0 : Int32} (hF : F_X7_isLetterOrEmpty m x0 = some (r, m')) : Tr yX7_isLetterOrEmpty wsX7_isLetterOrEmpty 1 20 [q_i x0] m (some r) m' := by
  refine tr_of (bytes := cX7_isLetterOrEmpty) (maxL := 1) (ret := (some .boolean)) (by decide) rfl (Nat.le_of_ble_eq_true rfl) (fun K hK hR => ?_)
  have hK : KOK K cX7_isLetterOrEmpty 1 RX7 wsX7_isLetterOrEmpty 1 0 20 := hK
  show AW K 0 0 [(0, q_i x0)] [] m
  unfold F_X7_isLetterOrEmpty at hF
  refine aw_iload_n hK 0 rfl dX7_isLetterOrEmpty_0 ?_
  refine aw_cs hK (as := [q_i x0]) (trp_X7_isLetter x0 _) gX7_isLetterOrEmpty_X7_isLetter rfl (na := 1) (by decide +kernel) rfl ⟨by decide, by decide⟩ (Nat.zero_le _) (Nat.le_of_ble_eq_true rfl) dX7_isLetterOrEmpty_1 ?_
  refine aw_if_ne hK 13 rfl dX7_isLetterOrEmpty_4 (fun hc => ?_) (fun hc => ?_)
  · have hF := if_f hF hc
    refine aw_iconst hK (1) rfl dX7_isLetterOrEmpty_13 ?_
    refine aw_goto hK 18 rfl dX7_isLetterOrEmpty_14 ?_
    obtain ⟨rfl, rfl⟩ := so_inj hF
    exact aw_iret hK hR rfl dX7_isLetterOrEmpty_18
  · have hF := if_t hF hc
    refine aw_iload_n hK 0 rfl dX7_isLetterOrEmpty_7 ?_
    refine aw_bipush hK (8) rfl dX7_isLetterOrEmpty_8 ?_
    refine aw_icmp_ne hK 17 rfl dX7_isLetterOrEmpty_10 (fun hc => ?_) (fun hc => ?_)
    · have hF := if_f hF hc
      refine aw_iconst hK (0) rfl dX7_isLetterOrEmpty_17 ?_
      obtain ⟨rfl, rfl⟩ := so_inj hF
      exact aw_iret hK hR rfl dX7_isLetterOrEmpty_18
    · have hF := if_t hF hc
      refine aw_iconst hK (1) rfl dX7_isLetterOrEmpty_13 ?_
      refine aw_goto hK 18 rfl dX7_isLetterOrEmpty_14 ?_
      obtain ⟨rfl, rfl⟩ := so_inj hF
      exact aw_iret hK hR rfl dX7_isLetterOrEmpty_18
theorem pb_X7_isLetterOrEmpty (x0 : Int32) : isb (P_X7_isLetterOrEmpty x0) = true := by
  simp only [P_X7_isLetterOrEmpty]
  repeat (first | rfl | split)
theorem fp_X7_isLetterOrEmpty (m : Mem) (x0 : Int32) : F_X7_isLetterOrEmpty m x0 = some (P_X7_isLetterOrEmpty x0, m) := by
  simp only [F_X7_isLetterOrEmpty, P_X7_isLetterOrEmpty]
  repeat (first | rfl | split)
theorem trp_X7_isLetterOrEmpty (x0 : Int32) (m : Mem) : Tr yX7_isLetterOrEmpty wsX7_isLetterOrEmpty 1 20 [q_i x0] m (some (P_X7_isLetterOrEmpty x0)) m := tr_X7_isLetterOrEmpty (fp_X7_isLetterOrEmpty m x0)
def S_X1_begin_23 (N : Nat) (rec_23 : Mem → Int32 → Option Mem) (m : Mem) (x3 : Int32) : Option Mem :=
  if (m 3 3) ≤ x3 then (
    some m
  ) else (
    gd (inb x3 (alen 6)) <|
    bnd (mup m 6 (ix x3) (0 : Int32)) fun m5 =>
    bnd (x3 + (1 : Int32)) fun y6 =>
    rec_23 m5 y6
  )
def L_X1_begin_23 (N : Nat) : Nat → Mem → Int32 → Option Mem
  | 0 => fun _ _ => none
  | f + 1 => S_X1_begin_23 N (L_X1_begin_23 N f)
set_option maxRecDepth 100000 in
set_option maxHeartbeats 4000000 in
theorem lp_X1_begin_23 {N : Nat} {K : KT} {m' : Mem} (hK : KOK K cX1_begin 4 RX1 wsX1_begin 1 0 21) (hR : KRet K none none m') : ∀ (f : Nat) {m : Mem} {x3 : Int32}, L_X1_begin_23 N f m x3 = some m' → AW K 0 23 [(0, q_r 3), (3, q_i x3)] [] m := by
  intro f
  induction f with
  | zero => intro m x3 hF; cases hF
  | succ f hrec_23 =>
    intro m x3 hF
    have hF : S_X1_begin_23 N (L_X1_begin_23 N f) m x3 = some m' := hF
    unfold S_X1_begin_23 at hF
    refine aw_iload_n hK 1 rfl dX1_begin_23 ?_
    refine aw_aload_n hK 0 rfl dX1_begin_24 ?_
    refine gf_1_3 hK rfl (List.mem_of_getElem? (i := 5) rfl) dX1_begin_25 ?_
    refine aw_icmp_ge hK 44 rfl dX1_begin_28 (fun hc => ?_) (fun hc => ?_)
    · have hF := if_t hF hc
      obtain rfl := Option.some.inj hF
      exact aw_vret hK hR dX1_begin_44
    · have hF := if_f hF hc
      refine aw_aload_n hK 0 rfl dX1_begin_31 ?_
      refine gf_1_2 hK rfl (6) rfl (List.mem_of_getElem? (i := 8) rfl) dX1_begin_32 ?_
      refine aw_iload_n hK 1 rfl dX1_begin_35 ?_
      refine aw_iconst hK (0) rfl dX1_begin_36 ?_
      obtain ⟨g4, hF⟩ := gd_some hF
      refine aw_zast hK rfl g4 rfl dX1_begin_37 ?_
      obtain ⟨m5, hm5, hF⟩ := bnd_some hF
      refine aw_mm hm5 ?_
      obtain ⟨y6, hy6, hF⟩ := bnd_some hF
      refine aw_iinc hK (cz := 1) 1 [(3, q_i y6), (0, q_r 3)] (by decide) rfl rfl hy6 rfl dX1_begin_38 ?_
      refine aw_goto hK 23 rfl dX1_begin_41 ?_
      refine aw_sub [1, 0] (lv' := [(0, q_r 3), (3, q_i y6)]) rfl ?_
      exact hrec_23 hF
def F_X1_begin (N : Nat) (m : Mem) (x1 : Int32) (x2 : Int32) : Option Mem :=
  bnd (mup m 3 3 (if (1024 : Int32) < x1 then (1024 : Int32) else x1)) fun m1 =>
  bnd (mup m1 3 4 x2) fun m2 =>
  bnd (mup m2 3 5 (0 : Int32)) fun m3 =>
  L_X1_begin_23 N N m3 (0 : Int32)
set_option maxRecDepth 100000 in
set_option maxHeartbeats 4000000 in
theorem tr_X1_begin {N : Nat} {m m' : Mem} {x1 : Int32} {x2 : Int32} (hF : F_X1_begin N m x1 x2 = some m') : Tr yX1_begin wsX1_begin 1 21 [q_r 3, q_i x1, q_i x2] m none m' := by
  refine tr_of (bytes := cX1_begin) (maxL := 4) (ret := none) (by decide) rfl (Nat.le_of_ble_eq_true rfl) (fun K hK hR => ?_)
  have hK : KOK K cX1_begin 4 RX1 wsX1_begin 1 0 21 := hK
  show AW K 0 0 [(0, q_r 3), (1, q_i x1), (2, q_i x2)] [] m
  unfold F_X1_begin at hF
  refine aw_aload_n hK 0 rfl dX1_begin_0 ?_
  refine aw_iload_n hK 1 rfl dX1_begin_1 ?_
  refine aw_sipush hK (1024) rfl dX1_begin_2 ?_
  refine aw_mmin hK (List.mem_of_getElem? (i := 1) rfl) (List.mem_of_getElem? (i := 2) rfl) (List.mem_of_getElem? (i := 3) rfl) (List.mem_of_getElem? (i := 4) rfl) ⟨by decide, by decide⟩ (Nat.zero_le _) (Nat.le_of_ble_eq_true rfl) dX1_begin_5 ?_
  refine pf_1_3 hK rfl (List.mem_of_getElem? (i := 5) rfl) dX1_begin_8 ?_
  obtain ⟨m1, hm1, hF⟩ := bnd_some hF
  refine aw_mm hm1 ?_
  refine aw_aload_n hK 0 rfl dX1_begin_11 ?_
  refine aw_iload_n hK 2 rfl dX1_begin_12 ?_
  refine pf_1_4 hK rfl (List.mem_of_getElem? (i := 6) rfl) dX1_begin_13 ?_
  obtain ⟨m2, hm2, hF⟩ := bnd_some hF
  refine aw_mm hm2 ?_
  refine aw_aload_n hK 0 rfl dX1_begin_16 ?_
  refine aw_iconst hK (0) rfl dX1_begin_17 ?_
  refine pf_1_5 hK rfl (List.mem_of_getElem? (i := 7) rfl) dX1_begin_18 ?_
  obtain ⟨m3, hm3, hF⟩ := bnd_some hF
  refine aw_mm hm3 ?_
  refine aw_iconst hK (0) rfl dX1_begin_21 ?_
  refine aw_istore_n hK [(3, q_i (0 : Int32)), (0, q_r 3), (1, q_i x1), (2, q_i x2)] (by decide) rfl dX1_begin_22 ?_
  refine aw_sub [1, 0] (lv' := [(0, q_r 3), (3, q_i (0 : Int32))]) rfl ?_
  exact lp_X1_begin_23 hK hR _ hF
def P_X7_packedArc (x0 : Int32) (x1 : Int32) (x2 : Int32) (x3 : Int32) : Int32 :=
  (((q_shl x0 (18 : Int32)) ||| (q_shl x1 (14 : Int32))) ||| (q_shl x2 (10 : Int32))) ||| x3
def F_X7_packedArc (m : Mem) (x0 : Int32) (x1 : Int32) (x2 : Int32) (x3 : Int32) : Option (Int32 × Mem) :=
  some ((((q_shl x0 (18 : Int32)) ||| (q_shl x1 (14 : Int32))) ||| (q_shl x2 (10 : Int32))) ||| x3, m)
set_option maxRecDepth 100000 in
set_option maxHeartbeats 4000000 in
theorem tr_X7_packedArc {m m' : Mem} {r : Int32} {x0 : Int32} {x1 : Int32} {x2 : Int32} {x3 : Int32} (hF : F_X7_packedArc m x0 x1 x2 x3 = some (r, m')) : Tr yX7_packedArc wsX7_packedArc 0 0 [q_i x0, q_i x1, q_i x2, q_i x3] m (some r) m' := by
  refine tr_of (bytes := cX7_packedArc) (maxL := 4) (ret := (some .int)) (by decide) rfl (Nat.le_of_ble_eq_true rfl) (fun K hK hR => ?_)
  have hK : KOK K cX7_packedArc 4 RX7 wsX7_packedArc 0 0 0 := hK
  show AW K 0 0 [(0, q_i x0), (1, q_i x1), (2, q_i x2), (3, q_i x3)] [] m
  unfold F_X7_packedArc at hF
  refine aw_iload_n hK 0 rfl dX7_packedArc_0 ?_
  refine aw_bipush hK (18) rfl dX7_packedArc_1 ?_
  refine aw_ishl hK dX7_packedArc_3 ?_
  refine aw_iload_n hK 1 rfl dX7_packedArc_4 ?_
  refine aw_bipush hK (14) rfl dX7_packedArc_5 ?_
  refine aw_ishl hK dX7_packedArc_7 ?_
  refine aw_ior hK dX7_packedArc_8 ?_
  refine aw_iload_n hK 2 rfl dX7_packedArc_9 ?_
  refine aw_bipush hK (10) rfl dX7_packedArc_10 ?_
  refine aw_ishl hK dX7_packedArc_12 ?_
  refine aw_ior hK dX7_packedArc_13 ?_
  refine aw_iload_n hK 3 rfl dX7_packedArc_14 ?_
  refine aw_ior hK dX7_packedArc_15 ?_
  obtain ⟨rfl, rfl⟩ := so_inj hF
  exact aw_iret hK hR rfl dX7_packedArc_16
theorem fp_X7_packedArc (m : Mem) (x0 : Int32) (x1 : Int32) (x2 : Int32) (x3 : Int32) : F_X7_packedArc m x0 x1 x2 x3 = some (P_X7_packedArc x0 x1 x2 x3, m) := by
  simp only [F_X7_packedArc, P_X7_packedArc]
  repeat (first | rfl | split)
theorem trp_X7_packedArc (x0 : Int32) (x1 : Int32) (x2 : Int32) (x3 : Int32) (m : Mem) : Tr yX7_packedArc wsX7_packedArc 0 0 [q_i x0, q_i x1, q_i x2, q_i x3] m (some (P_X7_packedArc x0 x1 x2 x3)) m := tr_X7_packedArc (fp_X7_packedArc m x0 x1 x2 x3)
def B_X1_addArc_65 (N : Nat) (m : Mem) : Option Mem :=
  some m
set_option maxRecDepth 100000 in
set_option maxHeartbeats 4000000 in
theorem bk_X1_addArc_65 {N : Nat} {K : KT} {m' : Mem} (hK : KOK K cX1_addArc 6 RX1 wsX1_addArc 1 0 23) (hR : KRet K none none m') {m : Mem} (hF : B_X1_addArc_65 N m = some m') : AW K 0 65 [] [] m := by
  unfold B_X1_addArc_65 at hF
  obtain rfl := Option.some.inj hF
  exact aw_vret hK hR dX1_addArc_65
def F_X1_addArc (N : Nat) (m : Mem) (x1 : Int32) (x2 : Int32) (x3 : Int32) (x4 : Int32) (x5 : Int32) : Option Mem :=
  if (25600 : Int32) ≤ (m 3 5) then (
    B_X1_addArc_65 N m
  ) else (
    if (m 3 3) ≤ x1 then (
      B_X1_addArc_65 N m
    ) else (
      if (m 3 3) ≤ x5 then (
        B_X1_addArc_65 N m
      ) else (
        gd (inb (m 3 5) (alen 4)) <|
        bnd (mup m 4 (ix (m 3 5)) (P_X7_packedArc x1 x2 x3 x5)) fun m2 =>
        gd (inb (m2 3 5) (alen 5)) <|
        bnd (mup m2 5 (ix (m2 3 5)) x4) fun m4 =>
        bnd (mup m4 3 5 ((m4 3 5) + (1 : Int32))) fun m5 =>
        B_X1_addArc_65 N m5
      )
    )
  )
set_option maxRecDepth 100000 in
set_option maxHeartbeats 4000000 in
theorem tr_X1_addArc {N : Nat} {m m' : Mem} {x1 : Int32} {x2 : Int32} {x3 : Int32} {x4 : Int32} {x5 : Int32} (hF : F_X1_addArc N m x1 x2 x3 x4 x5 = some m') : Tr yX1_addArc wsX1_addArc 1 23 [q_r 3, q_i x1, q_i x2, q_i x3, q_i x4, q_i x5] m none m' := by
  refine tr_of (bytes := cX1_addArc) (maxL := 6) (ret := none) (by decide) rfl (Nat.le_of_ble_eq_true rfl) (fun K hK hR => ?_)
  have hK : KOK K cX1_addArc 6 RX1 wsX1_addArc 1 0 23 := hK
  show AW K 0 0 [(0, q_r 3), (1, q_i x1), (2, q_i x2), (3, q_i x3), (4, q_i x4), (5, q_i x5)] [] m
  unfold F_X1_addArc at hF
  refine aw_aload_n hK 0 rfl dX1_addArc_0 ?_
  refine gf_1_5 hK rfl (List.mem_of_getElem? (i := 1) rfl) dX1_addArc_1 ?_
  refine aw_sipush hK (25600) rfl dX1_addArc_4 ?_
  refine aw_icmp_ge hK 65 rfl dX1_addArc_7 (fun hc => ?_) (fun hc => ?_)
  · have hF := if_t hF hc
    refine aw_sub [] (lv' := []) rfl ?_
    exact bk_X1_addArc_65 hK hR hF
  · have hF := if_f hF hc
    refine aw_iload_n hK 1 rfl dX1_addArc_10 ?_
    refine aw_aload_n hK 0 rfl dX1_addArc_11 ?_
    refine gf_1_3 hK rfl (List.mem_of_getElem? (i := 2) rfl) dX1_addArc_12 ?_
    refine aw_icmp_ge hK 65 rfl dX1_addArc_15 (fun hc => ?_) (fun hc => ?_)
    · have hF := if_t hF hc
      refine aw_sub [] (lv' := []) rfl ?_
      exact bk_X1_addArc_65 hK hR hF
    · have hF := if_f hF hc
      refine aw_iload hK 5 rfl dX1_addArc_18 ?_
      refine aw_aload_n hK 0 rfl dX1_addArc_20 ?_
      refine gf_1_3 hK rfl (List.mem_of_getElem? (i := 2) rfl) dX1_addArc_21 ?_
      refine aw_icmp_ge hK 65 rfl dX1_addArc_24 (fun hc => ?_) (fun hc => ?_)
      · have hF := if_t hF hc
        refine aw_sub [] (lv' := []) rfl ?_
        exact bk_X1_addArc_65 hK hR hF
      · have hF := if_f hF hc
        refine aw_aload_n hK 0 rfl dX1_addArc_27 ?_
        refine gf_1_0 hK rfl (4) rfl (List.mem_of_getElem? (i := 3) rfl) dX1_addArc_28 ?_
        refine aw_aload_n hK 0 rfl dX1_addArc_31 ?_
        refine gf_1_5 hK rfl (List.mem_of_getElem? (i := 1) rfl) dX1_addArc_32 ?_
        refine aw_iload_n hK 1 rfl dX1_addArc_35 ?_
        refine aw_iload_n hK 2 rfl dX1_addArc_36 ?_
        refine aw_iload_n hK 3 rfl dX1_addArc_37 ?_
        refine aw_iload hK 5 rfl dX1_addArc_38 ?_
        refine aw_csN hK (as := [q_i x1, q_i x2, q_i x3, q_i x5]) (host := "AffixWorks") (trp_X7_packedArc x1 x2 x3 x5 _) gX1_addArc_X7_packedArc_n63 rfl (List.mem_of_getElem? (i := 7) rfl) (List.mem_of_getElem? (i := 6) rfl) (List.mem_of_getElem? (i := 5) rfl) (na := 4) (by decide +kernel) rfl ⟨by decide, by decide⟩ (Nat.zero_le _) (Nat.le_of_ble_eq_true rfl) dX1_addArc_40 ?_
        obtain ⟨g1, hF⟩ := gd_some hF
        refine aw_iast hK rfl g1 dX1_addArc_43 ?_
        obtain ⟨m2, hm2, hF⟩ := bnd_some hF
        refine aw_mm hm2 ?_
        refine aw_aload_n hK 0 rfl dX1_addArc_44 ?_
        refine gf_1_1 hK rfl (5) rfl (List.mem_of_getElem? (i := 4) rfl) dX1_addArc_45 ?_
        refine aw_aload_n hK 0 rfl dX1_addArc_48 ?_
        refine gf_1_5 hK rfl (List.mem_of_getElem? (i := 1) rfl) dX1_addArc_49 ?_
        refine aw_iload hK 4 rfl dX1_addArc_52 ?_
        obtain ⟨g3, hF⟩ := gd_some hF
        refine aw_iast hK rfl g3 dX1_addArc_54 ?_
        obtain ⟨m4, hm4, hF⟩ := bnd_some hF
        refine aw_mm hm4 ?_
        refine aw_aload_n hK 0 rfl dX1_addArc_55 ?_
        refine aw_dup hK rfl dX1_addArc_56 ?_
        refine gf_1_5 hK rfl (List.mem_of_getElem? (i := 1) rfl) dX1_addArc_57 ?_
        refine aw_iconst hK (1) rfl dX1_addArc_60 ?_
        refine aw_iadd hK dX1_addArc_61 ?_
        refine pf_1_5 hK rfl (List.mem_of_getElem? (i := 1) rfl) dX1_addArc_62 ?_
        obtain ⟨m5, hm5, hF⟩ := bnd_some hF
        refine aw_mm hm5 ?_
        refine aw_sub [] (lv' := []) rfl ?_
        exact bk_X1_addArc_65 hK hR hF
def B_X1_addEnd_15 (N : Nat) (m : Mem) : Option Mem :=
  some m
set_option maxRecDepth 100000 in
set_option maxHeartbeats 4000000 in
theorem bk_X1_addEnd_15 {N : Nat} {K : KT} {m' : Mem} (hK : KOK K cX1_addEnd 2 RX1 wsX1_addEnd 0 0 0) (hR : KRet K none none m') {m : Mem} (hF : B_X1_addEnd_15 N m = some m') : AW K 0 15 [] [] m := by
  unfold B_X1_addEnd_15 at hF
  obtain rfl := Option.some.inj hF
  exact aw_vret hK hR dX1_addEnd_15
def F_X1_addEnd (N : Nat) (m : Mem) (x1 : Int32) : Option Mem :=
  if (m 3 3) ≤ x1 then (
    B_X1_addEnd_15 N m
  ) else (
    gd (inb x1 (alen 6)) <|
    bnd (mup m 6 (ix x1) (1 : Int32)) fun m2 =>
    B_X1_addEnd_15 N m2
  )
set_option maxRecDepth 100000 in
set_option maxHeartbeats 4000000 in
theorem tr_X1_addEnd {N : Nat} {m m' : Mem} {x1 : Int32} (hF : F_X1_addEnd N m x1 = some m') : Tr yX1_addEnd wsX1_addEnd 0 0 [q_r 3, q_i x1] m none m' := by
  refine tr_of (bytes := cX1_addEnd) (maxL := 2) (ret := none) (by decide) rfl (Nat.le_of_ble_eq_true rfl) (fun K hK hR => ?_)
  have hK : KOK K cX1_addEnd 2 RX1 wsX1_addEnd 0 0 0 := hK
  show AW K 0 0 [(0, q_r 3), (1, q_i x1)] [] m
  unfold F_X1_addEnd at hF
  refine aw_iload_n hK 1 rfl dX1_addEnd_0 ?_
  refine aw_aload_n hK 0 rfl dX1_addEnd_1 ?_
  refine gf_1_3 hK rfl (List.mem_of_getElem? (i := 1) rfl) dX1_addEnd_2 ?_
  refine aw_icmp_ge hK 15 rfl dX1_addEnd_5 (fun hc => ?_) (fun hc => ?_)
  · have hF := if_t hF hc
    refine aw_sub [] (lv' := []) rfl ?_
    exact bk_X1_addEnd_15 hK hR hF
  · have hF := if_f hF hc
    refine aw_aload_n hK 0 rfl dX1_addEnd_8 ?_
    refine gf_1_2 hK rfl (6) rfl (List.mem_of_getElem? (i := 2) rfl) dX1_addEnd_9 ?_
    refine aw_iload_n hK 1 rfl dX1_addEnd_12 ?_
    refine aw_iconst hK (1) rfl dX1_addEnd_13 ?_
    obtain ⟨g1, hF⟩ := gd_some hF
    refine aw_zast hK rfl g1 rfl dX1_addEnd_14 ?_
    obtain ⟨m2, hm2, hF⟩ := bnd_some hF
    refine aw_mm hm2 ?_
    refine aw_sub [] (lv' := []) rfl ?_
    exact bk_X1_addEnd_15 hK hR hF
def P_X7_fromOf (x0 : Int32) : Int32 :=
  q_ushr x0 (18 : Int32)
def F_X7_fromOf (m : Mem) (x0 : Int32) : Option (Int32 × Mem) :=
  some (q_ushr x0 (18 : Int32), m)
set_option maxRecDepth 100000 in
set_option maxHeartbeats 4000000 in
theorem tr_X7_fromOf {m m' : Mem} {r : Int32} {x0 : Int32} (hF : F_X7_fromOf m x0 = some (r, m')) : Tr yX7_fromOf wsX7_fromOf 0 0 [q_i x0] m (some r) m' := by
  refine tr_of (bytes := cX7_fromOf) (maxL := 1) (ret := (some .int)) (by decide) rfl (Nat.le_of_ble_eq_true rfl) (fun K hK hR => ?_)
  have hK : KOK K cX7_fromOf 1 RX7 wsX7_fromOf 0 0 0 := hK
  show AW K 0 0 [(0, q_i x0)] [] m
  unfold F_X7_fromOf at hF
  refine aw_iload_n hK 0 rfl dX7_fromOf_0 ?_
  refine aw_bipush hK (18) rfl dX7_fromOf_1 ?_
  refine aw_iushr hK dX7_fromOf_3 ?_
  obtain ⟨rfl, rfl⟩ := so_inj hF
  exact aw_iret hK hR rfl dX7_fromOf_4
theorem fp_X7_fromOf (m : Mem) (x0 : Int32) : F_X7_fromOf m x0 = some (P_X7_fromOf x0, m) := by
  simp only [F_X7_fromOf, P_X7_fromOf]
  repeat (first | rfl | split)
theorem trp_X7_fromOf (x0 : Int32) (m : Mem) : Tr yX7_fromOf wsX7_fromOf 0 0 [q_i x0] m (some (P_X7_fromOf x0)) m := tr_X7_fromOf (fp_X7_fromOf m x0)
def P_X7_toOf (x0 : Int32) : Int32 :=
  x0 &&& (1023 : Int32)
def F_X7_toOf (m : Mem) (x0 : Int32) : Option (Int32 × Mem) :=
  some (x0 &&& (1023 : Int32), m)
set_option maxRecDepth 100000 in
set_option maxHeartbeats 4000000 in
theorem tr_X7_toOf {m m' : Mem} {r : Int32} {x0 : Int32} (hF : F_X7_toOf m x0 = some (r, m')) : Tr yX7_toOf wsX7_toOf 0 0 [q_i x0] m (some r) m' := by
  refine tr_of (bytes := cX7_toOf) (maxL := 1) (ret := (some .int)) (by decide) rfl (Nat.le_of_ble_eq_true rfl) (fun K hK hR => ?_)
  have hK : KOK K cX7_toOf 1 RX7 wsX7_toOf 0 0 0 := hK
  show AW K 0 0 [(0, q_i x0)] [] m
  unfold F_X7_toOf at hF
  refine aw_iload_n hK 0 rfl dX7_toOf_0 ?_
  refine aw_sipush hK (1023) rfl dX7_toOf_1 ?_
  refine aw_iand hK dX7_toOf_4 ?_
  obtain ⟨rfl, rfl⟩ := so_inj hF
  exact aw_iret hK hR rfl dX7_toOf_5
theorem fp_X7_toOf (m : Mem) (x0 : Int32) : F_X7_toOf m x0 = some (P_X7_toOf x0, m) := by
  simp only [F_X7_toOf, P_X7_toOf]
  repeat (first | rfl | split)
theorem trp_X7_toOf (x0 : Int32) (m : Mem) : Tr yX7_toOf wsX7_toOf 0 0 [q_i x0] m (some (P_X7_toOf x0)) m := tr_X7_toOf (fp_X7_toOf m x0)
def B_X1_linkArcs_99 (N : Nat) (rec_25 : Mem → Int32 → Int32 → Option Mem) (m : Mem) (x1 : Int32) (x2 : Int32) : Option Mem :=
  bnd (x2 + (1 : Int32)) fun y6 =>
  rec_25 m x1 y6
set_option maxRecDepth 100000 in
set_option maxHeartbeats 4000000 in
theorem bk_X1_linkArcs_99 {N : Nat} {K : KT} {m' : Mem} {rec_25 : Mem → Int32 → Int32 → Option Mem} (hK : KOK K cX1_linkArcs 4 RX1 wsX1_linkArcs 1 0 20) (hR : KRet K none none m') (hrec_25 : ∀ {m : Mem} {x1 : Int32} {x2 : Int32}, rec_25 m x1 x2 = some m' → AW K 0 25 [(0, q_r 3), (1, q_i x1), (2, q_i x2)] [] m) {m : Mem} {x1 : Int32} {x2 : Int32} (hF : B_X1_linkArcs_99 N rec_25 m x1 x2 = some m') : AW K 0 99 [(0, q_r 3), (1, q_i x1), (2, q_i x2)] [] m := by
  unfold B_X1_linkArcs_99 at hF
  obtain ⟨y6, hy6, hF⟩ := bnd_some hF
  refine aw_iinc hK (cz := 1) 2 [(2, q_i y6), (0, q_r 3), (1, q_i x1)] (by decide) rfl rfl hy6 rfl dX1_linkArcs_99 ?_
  refine aw_goto hK 25 rfl dX1_linkArcs_102 ?_
  refine aw_sub [1, 2, 0] (lv' := [(0, q_r 3), (1, q_i x1), (2, q_i y6)]) rfl ?_
  exact hrec_25 hF
def B_X1_linkArcs_79 (N : Nat) (rec_25 : Mem → Int32 → Int32 → Option Mem) (m : Mem) (x1 : Int32) (x2 : Int32) (s0 : Int32) : Option Mem :=
  gd (inb s0 (alen 7)) <|
  gd (inb x2 (alen 8)) <|
  bnd (mup m 8 (ix x2) (m 7 (ix s0))) fun m11 =>
  gd (inb s0 (alen 7)) <|
  bnd (mup m11 7 (ix s0) x2) fun m13 =>
  B_X1_linkArcs_99 N rec_25 m13 x1 x2
set_option maxRecDepth 100000 in
set_option maxHeartbeats 4000000 in
theorem bk_X1_linkArcs_79 {N : Nat} {K : KT} {m' : Mem} {rec_25 : Mem → Int32 → Int32 → Option Mem} (hK : KOK K cX1_linkArcs 4 RX1 wsX1_linkArcs 1 0 20) (hR : KRet K none none m') (hrec_25 : ∀ {m : Mem} {x1 : Int32} {x2 : Int32}, rec_25 m x1 x2 = some m' → AW K 0 25 [(0, q_r 3), (1, q_i x1), (2, q_i x2)] [] m) {m : Mem} {x1 : Int32} {x2 : Int32} {s0 : Int32} (hF : B_X1_linkArcs_79 N rec_25 m x1 x2 s0 = some m') : AW K 0 79 [(0, q_r 3), (1, q_i x1), (2, q_i x2)] [q_i s0] m := by
  unfold B_X1_linkArcs_79 at hF
  refine aw_istore_n hK [(3, q_i s0), (0, q_r 3), (1, q_i x1), (2, q_i x2)] (by decide) rfl dX1_linkArcs_79 ?_
  refine aw_aload_n hK 1 rfl dX1_linkArcs_80 ?_
  refine gf_1_7 hK rfl (8) rfl (List.mem_of_getElem? (i := 6) rfl) dX1_linkArcs_81 ?_
  refine aw_iload_n hK 3 rfl dX1_linkArcs_84 ?_
  refine aw_aload_n hK 1 rfl dX1_linkArcs_85 ?_
  refine gf_1_6 hK rfl (7) rfl (List.mem_of_getElem? (i := 2) rfl) dX1_linkArcs_86 ?_
  refine aw_iload_n hK 0 rfl dX1_linkArcs_89 ?_
  obtain ⟨g9, hF⟩ := gd_some hF
  refine aw_iald hK rfl g9 dX1_linkArcs_90 ?_
  obtain ⟨g10, hF⟩ := gd_some hF
  refine aw_iast hK rfl g10 dX1_linkArcs_91 ?_
  obtain ⟨m11, hm11, hF⟩ := bnd_some hF
  refine aw_mm hm11 ?_
  refine aw_aload_n hK 1 rfl dX1_linkArcs_92 ?_
  refine gf_1_6 hK rfl (7) rfl (List.mem_of_getElem? (i := 2) rfl) dX1_linkArcs_93 ?_
  refine aw_iload_n hK 0 rfl dX1_linkArcs_96 ?_
  refine aw_iload_n hK 3 rfl dX1_linkArcs_97 ?_
  obtain ⟨g12, hF⟩ := gd_some hF
  refine aw_iast hK rfl g12 dX1_linkArcs_98 ?_
  obtain ⟨m13, hm13, hF⟩ := bnd_some hF
  refine aw_mm hm13 ?_
  refine aw_sub [1, 2, 3] (lv' := [(0, q_r 3), (1, q_i x1), (2, q_i x2)]) rfl ?_
  exact bk_X1_linkArcs_99 hK hR hrec_25 hF
def B_X1_linkArcs_54 (N : Nat) (rec_25 : Mem → Int32 → Int32 → Option Mem) (m : Mem) (x1 : Int32) (x2 : Int32) : Option Mem :=
  if x1 = (0 : Int32) then (
    gd (inb x2 (alen 4)) <|
    B_X1_linkArcs_79 N rec_25 m x1 x2 (P_X7_toOf (m 4 (ix x2)))
  ) else (
    gd (inb x2 (alen 4)) <|
    B_X1_linkArcs_79 N rec_25 m x1 x2 (P_X7_fromOf (m 4 (ix x2)))
  )
set_option maxRecDepth 100000 in
set_option maxHeartbeats 4000000 in
theorem bk_X1_linkArcs_54 {N : Nat} {K : KT} {m' : Mem} {rec_25 : Mem → Int32 → Int32 → Option Mem} (hK : KOK K cX1_linkArcs 4 RX1 wsX1_linkArcs 1 0 20) (hR : KRet K none none m') (hrec_25 : ∀ {m : Mem} {x1 : Int32} {x2 : Int32}, rec_25 m x1 x2 = some m' → AW K 0 25 [(0, q_r 3), (1, q_i x1), (2, q_i x2)] [] m) {m : Mem} {x1 : Int32} {x2 : Int32} (hF : B_X1_linkArcs_54 N rec_25 m x1 x2 = some m') : AW K 0 54 [(0, q_r 3), (1, q_i x1), (2, q_i x2)] [] m := by
  unfold B_X1_linkArcs_54 at hF
  refine aw_iload_n hK 1 rfl dX1_linkArcs_54 ?_
  refine aw_if_eq hK 70 rfl dX1_linkArcs_55 (fun hc => ?_) (fun hc => ?_)
  · have hF := if_t hF hc
    refine aw_aload_n hK 0 rfl dX1_linkArcs_70 ?_
    refine gf_1_0 hK rfl (4) rfl (List.mem_of_getElem? (i := 5) rfl) dX1_linkArcs_71 ?_
    refine aw_iload_n hK 2 rfl dX1_linkArcs_74 ?_
    obtain ⟨g7, hF⟩ := gd_some hF
    refine aw_iald hK rfl g7 dX1_linkArcs_75 ?_
    refine aw_csN hK (as := [q_i (m 4 (ix x2))]) (host := "AffixWorks") (trp_X7_toOf (m 4 (ix x2)) _) gX1_linkArcs_X7_toOf_n85 rfl (List.mem_of_getElem? (i := 11) rfl) (List.mem_of_getElem? (i := 8) rfl) (List.mem_of_getElem? (i := 10) rfl) (na := 1) (by decide +kernel) rfl ⟨by decide, by decide⟩ (Nat.zero_le _) (Nat.le_of_ble_eq_true rfl) dX1_linkArcs_76 ?_
    refine aw_sub [0, 1, 2] (lv' := [(0, q_r 3), (1, q_i x1), (2, q_i x2)]) rfl ?_
    exact bk_X1_linkArcs_79 hK hR hrec_25 hF
  · have hF := if_f hF hc
    refine aw_aload_n hK 0 rfl dX1_linkArcs_58 ?_
    refine gf_1_0 hK rfl (4) rfl (List.mem_of_getElem? (i := 5) rfl) dX1_linkArcs_59 ?_
    refine aw_iload_n hK 2 rfl dX1_linkArcs_62 ?_
    obtain ⟨g8, hF⟩ := gd_some hF
    refine aw_iald hK rfl g8 dX1_linkArcs_63 ?_
    refine aw_csN hK (as := [q_i (m 4 (ix x2))]) (host := "AffixWorks") (trp_X7_fromOf (m 4 (ix x2)) _) gX1_linkArcs_X7_fromOf_n74 rfl (List.mem_of_getElem? (i := 8) rfl) (List.mem_of_getElem? (i := 8) rfl) (List.mem_of_getElem? (i := 7) rfl) (na := 1) (by decide +kernel) rfl ⟨by decide, by decide⟩ (Nat.zero_le _) (Nat.le_of_ble_eq_true rfl) dX1_linkArcs_64 ?_
    refine aw_goto hK 79 rfl dX1_linkArcs_67 ?_
    refine aw_sub [0, 1, 2] (lv' := [(0, q_r 3), (1, q_i x1), (2, q_i x2)]) rfl ?_
    exact bk_X1_linkArcs_79 hK hR hrec_25 hF
def S_X1_linkArcs_25 (N : Nat) (rec_25 : Mem → Int32 → Int32 → Option Mem) (m : Mem) (x1 : Int32) (x2 : Int32) : Option Mem :=
  if (m 3 5) ≤ x2 then (
    some m
  ) else (
    if x1 = (0 : Int32) then (
      gd (inb x2 (alen 4)) <|
      gd (inb (P_X7_fromOf (m 4 (ix x2))) (alen 10)) <|
      if (m 10 (ix (P_X7_fromOf (m 4 (ix x2))))) = (0 : Int32) then (
        B_X1_linkArcs_99 N rec_25 m x1 x2
      ) else (
        B_X1_linkArcs_54 N rec_25 m x1 x2
      )
    ) else (
      B_X1_linkArcs_54 N rec_25 m x1 x2
    )
  )
def L_X1_linkArcs_25 (N : Nat) : Nat → Mem → Int32 → Int32 → Option Mem
  | 0 => fun _ _ _ => none
  | f + 1 => S_X1_linkArcs_25 N (L_X1_linkArcs_25 N f)
set_option maxRecDepth 100000 in
set_option maxHeartbeats 4000000 in
theorem lp_X1_linkArcs_25 {N : Nat} {K : KT} {m' : Mem} (hK : KOK K cX1_linkArcs 4 RX1 wsX1_linkArcs 1 0 20) (hR : KRet K none none m') : ∀ (f : Nat) {m : Mem} {x1 : Int32} {x2 : Int32}, L_X1_linkArcs_25 N f m x1 x2 = some m' → AW K 0 25 [(0, q_r 3), (1, q_i x1), (2, q_i x2)] [] m := by
  intro f
  induction f with
  | zero => intro m x1 x2 hF; cases hF
  | succ f hrec_25 =>
    intro m x1 x2 hF
    have hF : S_X1_linkArcs_25 N (L_X1_linkArcs_25 N f) m x1 x2 = some m' := hF
    unfold S_X1_linkArcs_25 at hF
    refine aw_iload_n hK 2 rfl dX1_linkArcs_25 ?_
    refine aw_aload_n hK 0 rfl dX1_linkArcs_26 ?_
    refine gf_1_5 hK rfl (List.mem_of_getElem? (i := 3) rfl) dX1_linkArcs_27 ?_
    refine aw_icmp_ge hK 105 rfl dX1_linkArcs_30 (fun hc => ?_) (fun hc => ?_)
    · have hF := if_t hF hc
      obtain rfl := Option.some.inj hF
      exact aw_vret hK hR dX1_linkArcs_105
    · have hF := if_f hF hc
      refine aw_iload_n hK 1 rfl dX1_linkArcs_33 ?_
      refine aw_if_ne hK 54 rfl dX1_linkArcs_34 (fun hc => ?_) (fun hc => ?_)
      · have hF := if_f hF hc
        refine aw_sub [0, 1, 2] (lv' := [(0, q_r 3), (1, q_i x1), (2, q_i x2)]) rfl ?_
        exact bk_X1_linkArcs_54 hK hR hrec_25 hF
      · have hF := if_t hF hc
        refine aw_aload_n hK 0 rfl dX1_linkArcs_37 ?_
        refine gf_1_9 hK rfl (10) rfl (List.mem_of_getElem? (i := 4) rfl) dX1_linkArcs_38 ?_
        refine aw_aload_n hK 0 rfl dX1_linkArcs_41 ?_
        refine gf_1_0 hK rfl (4) rfl (List.mem_of_getElem? (i := 5) rfl) dX1_linkArcs_42 ?_
        refine aw_iload_n hK 2 rfl dX1_linkArcs_45 ?_
        obtain ⟨g4, hF⟩ := gd_some hF
        refine aw_iald hK rfl g4 dX1_linkArcs_46 ?_
        refine aw_csN hK (as := [q_i (m 4 (ix x2))]) (host := "AffixWorks") (trp_X7_fromOf (m 4 (ix x2)) _) gX1_linkArcs_X7_fromOf_n74 rfl (List.mem_of_getElem? (i := 8) rfl) (List.mem_of_getElem? (i := 8) rfl) (List.mem_of_getElem? (i := 7) rfl) (na := 1) (by decide +kernel) rfl ⟨by decide, by decide⟩ (Nat.zero_le _) (Nat.le_of_ble_eq_true rfl) dX1_linkArcs_47 ?_
        obtain ⟨g5, hF⟩ := gd_some hF
        refine aw_zald hK rfl g5 dX1_linkArcs_50 ?_
        refine aw_if_eq hK 99 rfl dX1_linkArcs_51 (fun hc => ?_) (fun hc => ?_)
        · have hF := if_t hF hc
          refine aw_sub [0, 1, 2] (lv' := [(0, q_r 3), (1, q_i x1), (2, q_i x2)]) rfl ?_
          exact bk_X1_linkArcs_99 hK hR hrec_25 hF
        · have hF := if_f hF hc
          refine aw_sub [0, 1, 2] (lv' := [(0, q_r 3), (1, q_i x1), (2, q_i x2)]) rfl ?_
          exact bk_X1_linkArcs_54 hK hR hrec_25 hF
def S_X1_linkArcs_2 (N : Nat) (rec_2 : Mem → Int32 → Int32 → Option Mem) (m : Mem) (x1 : Int32) (x2 : Int32) : Option Mem :=
  if (m 3 3) ≤ x2 then (
    L_X1_linkArcs_25 N N m x1 (0 : Int32)
  ) else (
    gd (inb x2 (alen 7)) <|
    bnd (mup m 7 (ix x2) (-1 : Int32)) fun m2 =>
    bnd (x2 + (1 : Int32)) fun y3 =>
    rec_2 m2 x1 y3
  )
def L_X1_linkArcs_2 (N : Nat) : Nat → Mem → Int32 → Int32 → Option Mem
  | 0 => fun _ _ _ => none
  | f + 1 => S_X1_linkArcs_2 N (L_X1_linkArcs_2 N f)
set_option maxRecDepth 100000 in
set_option maxHeartbeats 4000000 in
theorem lp_X1_linkArcs_2 {N : Nat} {K : KT} {m' : Mem} (hK : KOK K cX1_linkArcs 4 RX1 wsX1_linkArcs 1 0 20) (hR : KRet K none none m') : ∀ (f : Nat) {m : Mem} {x1 : Int32} {x2 : Int32}, L_X1_linkArcs_2 N f m x1 x2 = some m' → AW K 0 2 [(0, q_r 3), (1, q_i x1), (2, q_i x2)] [] m := by
  intro f
  induction f with
  | zero => intro m x1 x2 hF; cases hF
  | succ f hrec_2 =>
    intro m x1 x2 hF
    have hF : S_X1_linkArcs_2 N (L_X1_linkArcs_2 N f) m x1 x2 = some m' := hF
    unfold S_X1_linkArcs_2 at hF
    refine aw_iload_n hK 2 rfl dX1_linkArcs_2 ?_
    refine aw_aload_n hK 0 rfl dX1_linkArcs_3 ?_
    refine gf_1_3 hK rfl (List.mem_of_getElem? (i := 1) rfl) dX1_linkArcs_4 ?_
    refine aw_icmp_ge hK 23 rfl dX1_linkArcs_7 (fun hc => ?_) (fun hc => ?_)
    · have hF := if_t hF hc
      refine aw_iconst hK (0) rfl dX1_linkArcs_23 ?_
      refine aw_istore_n hK [(2, q_i (0 : Int32)), (0, q_r 3), (1, q_i x1)] (by decide) rfl dX1_linkArcs_24 ?_
      refine aw_sub [1, 2, 0] (lv' := [(0, q_r 3), (1, q_i x1), (2, q_i (0 : Int32))]) rfl ?_
      exact lp_X1_linkArcs_25 hK hR _ hF
    · have hF := if_f hF hc
      refine aw_aload_n hK 0 rfl dX1_linkArcs_10 ?_
      refine gf_1_6 hK rfl (7) rfl (List.mem_of_getElem? (i := 2) rfl) dX1_linkArcs_11 ?_
      refine aw_iload_n hK 2 rfl dX1_linkArcs_14 ?_
      refine aw_iconst hK (-1) rfl dX1_linkArcs_15 ?_
      obtain ⟨g1, hF⟩ := gd_some hF
      refine aw_iast hK rfl g1 dX1_linkArcs_16 ?_
      obtain ⟨m2, hm2, hF⟩ := bnd_some hF
      refine aw_mm hm2 ?_
      obtain ⟨y3, hy3, hF⟩ := bnd_some hF
      refine aw_iinc hK (cz := 1) 2 [(2, q_i y3), (0, q_r 3), (1, q_i x1)] (by decide) rfl rfl hy3 rfl dX1_linkArcs_17 ?_
      refine aw_goto hK 2 rfl dX1_linkArcs_20 ?_
      refine aw_sub [1, 2, 0] (lv' := [(0, q_r 3), (1, q_i x1), (2, q_i y3)]) rfl ?_
      exact hrec_2 hF
def F_X1_linkArcs (N : Nat) (m : Mem) (x1 : Int32) : Option Mem :=
  L_X1_linkArcs_2 N N m x1 (0 : Int32)
set_option maxRecDepth 100000 in
set_option maxHeartbeats 4000000 in
theorem tr_X1_linkArcs {N : Nat} {m m' : Mem} {x1 : Int32} (hF : F_X1_linkArcs N m x1 = some m') : Tr yX1_linkArcs wsX1_linkArcs 1 20 [q_r 3, q_i x1] m none m' := by
  refine tr_of (bytes := cX1_linkArcs) (maxL := 4) (ret := none) (by decide) rfl (Nat.le_of_ble_eq_true rfl) (fun K hK hR => ?_)
  have hK : KOK K cX1_linkArcs 4 RX1 wsX1_linkArcs 1 0 20 := hK
  show AW K 0 0 [(0, q_r 3), (1, q_i x1)] [] m
  unfold F_X1_linkArcs at hF
  refine aw_iconst hK (0) rfl dX1_linkArcs_0 ?_
  refine aw_istore_n hK [(2, q_i (0 : Int32)), (0, q_r 3), (1, q_i x1)] (by decide) rfl dX1_linkArcs_1 ?_
  refine aw_sub [1, 2, 0] (lv' := [(0, q_r 3), (1, q_i x1), (2, q_i (0 : Int32))]) rfl ?_
  exact lp_X1_linkArcs_2 hK hR _ hF
def B_X1_follow_126 (N : Nat) (m : Mem) (x4 : Int32) : Option (Int32 × Mem) :=
  some (x4, m)
set_option maxRecDepth 100000 in
set_option maxHeartbeats 4000000 in
theorem bk_X1_follow_126 {N : Nat} {K : KT} {m' : Mem} {r : Int32} (hK : KOK K cX1_follow 9 RX1 wsX1_follow 1 0 20) (hR : KRet K (some .int) (some r) m') {m : Mem} {x4 : Int32} (hF : B_X1_follow_126 N m x4 = some (r, m')) : AW K 0 126 [(4, q_i x4)] [] m := by
  unfold B_X1_follow_126 at hF
  refine aw_iload hK 0 rfl dX1_follow_126 ?_
  obtain ⟨rfl, rfl⟩ := so_inj hF
  exact aw_iret hK hR rfl dX1_follow_128
def B_X1_follow_120 (N : Nat) (rec_6 : Mem → Int32 → Nat → Int32 → Int32 → Option (Int32 × Mem)) (m : Mem) (x2 : Int32) (a3 : Nat) (x4 : Int32) (x5 : Int32) : Option (Int32 × Mem) :=
  bnd (x5 + (1 : Int32)) fun y15 =>
  rec_6 m x2 a3 x4 y15
set_option maxRecDepth 100000 in
set_option maxHeartbeats 4000000 in
theorem bk_X1_follow_120 {N : Nat} {K : KT} {m' : Mem} {rec_6 : Mem → Int32 → Nat → Int32 → Int32 → Option (Int32 × Mem)} {r : Int32} (hK : KOK K cX1_follow 9 RX1 wsX1_follow 1 0 20) (hR : KRet K (some .int) (some r) m') (hrec_6 : ∀ {m : Mem} {x2 : Int32} {a3 : Nat} {x4 : Int32} {x5 : Int32} (hk3 : knd a3 = 11), rec_6 m x2 a3 x4 x5 = some (r, m') → AW K 0 6 [(0, q_r 3), (2, q_i x2), (3, q_r a3), (4, q_i x4), (5, q_i x5)] [] m) {m : Mem} {x2 : Int32} {a3 : Nat} {x4 : Int32} {x5 : Int32} (hk3 : knd a3 = 11) (hF : B_X1_follow_120 N rec_6 m x2 a3 x4 x5 = some (r, m')) : AW K 0 120 [(0, q_r 3), (2, q_i x2), (3, q_r a3), (4, q_i x4), (5, q_i x5)] [] m := by
  unfold B_X1_follow_120 at hF
  obtain ⟨y15, hy15, hF⟩ := bnd_some hF
  refine aw_iinc hK (cz := 1) 4 [(5, q_i y15), (0, q_r 3), (2, q_i x2), (3, q_r a3), (4, q_i x4)] (by decide) rfl rfl hy15 rfl dX1_follow_120 ?_
  refine aw_goto hK 6 rfl dX1_follow_123 ?_
  refine aw_sub [1, 2, 3, 4, 0] (lv' := [(0, q_r 3), (2, q_i x2), (3, q_r a3), (4, q_i x4), (5, q_i y15)]) rfl ?_
  exact hrec_6 hk3 hF
def B_X1_follow_105 (N : Nat) (rec_6 : Mem → Int32 → Nat → Int32 → Int32 → Option (Int32 × Mem)) (rec_38 : Mem → Int32 → Nat → Int32 → Int32 → Int32 → Int32 → Option (Int32 × Mem)) (m : Mem) (x2 : Int32) (a3 : Nat) (x4 : Int32) (x5 : Int32) (x6 : Int32) (x7 : Int32) : Option (Int32 × Mem) :=
  gd (inb x6 (alen 8)) <|
  bnd (m 8 (ix x6)) fun y13 =>
  bnd (x7 + (1 : Int32)) fun y14 =>
  rec_38 m x2 a3 x4 x5 y13 y14
set_option maxRecDepth 100000 in
set_option maxHeartbeats 4000000 in
theorem bk_X1_follow_105 {N : Nat} {K : KT} {m' : Mem} {rec_6 : Mem → Int32 → Nat → Int32 → Int32 → Option (Int32 × Mem)} {rec_38 : Mem → Int32 → Nat → Int32 → Int32 → Int32 → Int32 → Option (Int32 × Mem)} {r : Int32} (hK : KOK K cX1_follow 9 RX1 wsX1_follow 1 0 20) (hR : KRet K (some .int) (some r) m') (hrec_6 : ∀ {m : Mem} {x2 : Int32} {a3 : Nat} {x4 : Int32} {x5 : Int32} (hk3 : knd a3 = 11), rec_6 m x2 a3 x4 x5 = some (r, m') → AW K 0 6 [(0, q_r 3), (2, q_i x2), (3, q_r a3), (4, q_i x4), (5, q_i x5)] [] m) (hrec_38 : ∀ {m : Mem} {x2 : Int32} {a3 : Nat} {x4 : Int32} {x5 : Int32} {x6 : Int32} {x7 : Int32} (hk3 : knd a3 = 11), rec_38 m x2 a3 x4 x5 x6 x7 = some (r, m') → AW K 0 38 [(0, q_r 3), (2, q_i x2), (3, q_r a3), (4, q_i x4), (5, q_i x5), (6, q_i x6), (7, q_i x7)] [] m) {m : Mem} {x2 : Int32} {a3 : Nat} {x4 : Int32} {x5 : Int32} {x6 : Int32} {x7 : Int32} (hk3 : knd a3 = 11) (hF : B_X1_follow_105 N rec_6 rec_38 m x2 a3 x4 x5 x6 x7 = some (r, m')) : AW K 0 105 [(0, q_r 3), (2, q_i x2), (3, q_r a3), (4, q_i x4), (5, q_i x5), (6, q_i x6), (7, q_i x7)] [] m := by
  unfold B_X1_follow_105 at hF
  refine aw_aload_n hK 0 rfl dX1_follow_105 ?_
  refine gf_1_7 hK rfl (8) rfl (List.mem_of_getElem? (i := 5) rfl) dX1_follow_106 ?_
  refine aw_iload hK 5 rfl dX1_follow_109 ?_
  obtain ⟨g12, hF⟩ := gd_some hF
  refine aw_iald hK rfl g12 dX1_follow_111 ?_
  obtain ⟨y13, hy13, hF⟩ := bnd_some hF
  refine aw_nm hy13 ?_
  refine aw_istore hK [(6, q_i y13), (0, q_r 3), (2, q_i x2), (3, q_r a3), (4, q_i x4), (5, q_i x5), (7, q_i x7)] (by decide) rfl dX1_follow_112 ?_
  obtain ⟨y14, hy14, hF⟩ := bnd_some hF
  refine aw_iinc hK (cz := 1) 6 [(7, q_i y14), (6, q_i y13), (0, q_r 3), (2, q_i x2), (3, q_r a3), (4, q_i x4), (5, q_i x5)] (by decide) rfl rfl hy14 rfl dX1_follow_114 ?_
  refine aw_goto hK 38 rfl dX1_follow_117 ?_
  refine aw_sub [2, 3, 4, 5, 6, 1, 0] (lv' := [(0, q_r 3), (2, q_i x2), (3, q_r a3), (4, q_i x4), (5, q_i x5), (6, q_i y13), (7, q_i y14)]) rfl ?_
  exact hrec_38 hk3 hF
def B_X1_follow_79 (N : Nat) (rec_6 : Mem → Int32 → Nat → Int32 → Int32 → Option (Int32 × Mem)) (rec_38 : Mem → Int32 → Nat → Int32 → Int32 → Int32 → Int32 → Option (Int32 × Mem)) (m : Mem) (x2 : Int32) (a3 : Nat) (x4 : Int32) (x5 : Int32) (x6 : Int32) (x7 : Int32) (s0 : Int32) : Option (Int32 × Mem) :=
  gd (inb s0 (alen a3)) <|
  if (m a3 (ix s0)) = (0 : Int32) then (
    gd (inb s0 (alen a3)) <|
    bnd (mup m a3 (ix s0) (1 : Int32)) fun m8 =>
    gd (inb x4 (alen 9)) <|
    bnd (mup m8 9 (ix x4) s0) fun m10 =>
    bnd (x4 + (1 : Int32)) fun y11 =>
    B_X1_follow_105 N rec_6 rec_38 m10 x2 a3 y11 x5 x6 x7
  ) else (
    B_X1_follow_105 N rec_6 rec_38 m x2 a3 x4 x5 x6 x7
  )
set_option maxRecDepth 100000 in
set_option maxHeartbeats 4000000 in
theorem bk_X1_follow_79 {N : Nat} {K : KT} {m' : Mem} {rec_6 : Mem → Int32 → Nat → Int32 → Int32 → Option (Int32 × Mem)} {rec_38 : Mem → Int32 → Nat → Int32 → Int32 → Int32 → Int32 → Option (Int32 × Mem)} {r : Int32} (hK : KOK K cX1_follow 9 RX1 wsX1_follow 1 0 20) (hR : KRet K (some .int) (some r) m') (hrec_6 : ∀ {m : Mem} {x2 : Int32} {a3 : Nat} {x4 : Int32} {x5 : Int32} (hk3 : knd a3 = 11), rec_6 m x2 a3 x4 x5 = some (r, m') → AW K 0 6 [(0, q_r 3), (2, q_i x2), (3, q_r a3), (4, q_i x4), (5, q_i x5)] [] m) (hrec_38 : ∀ {m : Mem} {x2 : Int32} {a3 : Nat} {x4 : Int32} {x5 : Int32} {x6 : Int32} {x7 : Int32} (hk3 : knd a3 = 11), rec_38 m x2 a3 x4 x5 x6 x7 = some (r, m') → AW K 0 38 [(0, q_r 3), (2, q_i x2), (3, q_r a3), (4, q_i x4), (5, q_i x5), (6, q_i x6), (7, q_i x7)] [] m) {m : Mem} {x2 : Int32} {a3 : Nat} {x4 : Int32} {x5 : Int32} {x6 : Int32} {x7 : Int32} {s0 : Int32} (hk3 : knd a3 = 11) (hF : B_X1_follow_79 N rec_6 rec_38 m x2 a3 x4 x5 x6 x7 s0 = some (r, m')) : AW K 0 79 [(0, q_r 3), (2, q_i x2), (3, q_r a3), (4, q_i x4), (5, q_i x5), (6, q_i x6), (7, q_i x7)] [q_i s0] m := by
  unfold B_X1_follow_79 at hF
  refine aw_istore hK [(8, q_i s0), (0, q_r 3), (2, q_i x2), (3, q_r a3), (4, q_i x4), (5, q_i x5), (6, q_i x6), (7, q_i x7)] (by decide) rfl dX1_follow_79 ?_
  refine aw_aload_n hK 3 rfl dX1_follow_81 ?_
  refine aw_iload hK 0 rfl dX1_follow_82 ?_
  obtain ⟨g6, hF⟩ := gd_some hF
  refine aw_zald hK hk3 g6 dX1_follow_84 ?_
  refine aw_if_ne hK 105 rfl dX1_follow_85 (fun hc => ?_) (fun hc => ?_)
  · have hF := if_f hF hc
    refine aw_sub [1, 2, 3, 4, 5, 6, 7] (lv' := [(0, q_r 3), (2, q_i x2), (3, q_r a3), (4, q_i x4), (5, q_i x5), (6, q_i x6), (7, q_i x7)]) rfl ?_
    exact bk_X1_follow_105 hK hR hrec_6 hrec_38 hk3 hF
  · have hF := if_t hF hc
    refine aw_aload_n hK 3 rfl dX1_follow_88 ?_
    refine aw_iload hK 0 rfl dX1_follow_89 ?_
    refine aw_iconst hK (1) rfl dX1_follow_91 ?_
    obtain ⟨g7, hF⟩ := gd_some hF
    refine aw_zast hK hk3 g7 rfl dX1_follow_92 ?_
    obtain ⟨m8, hm8, hF⟩ := bnd_some hF
    refine aw_mm hm8 ?_
    refine aw_aload_n hK 1 rfl dX1_follow_93 ?_
    refine gf_1_8 hK rfl (9) rfl (List.mem_of_getElem? (i := 2) rfl) dX1_follow_94 ?_
    refine aw_iload hK 4 rfl dX1_follow_97 ?_
    refine aw_iload hK 0 rfl dX1_follow_99 ?_
    obtain ⟨g9, hF⟩ := gd_some hF
    refine aw_iast hK rfl g9 dX1_follow_101 ?_
    obtain ⟨m10, hm10, hF⟩ := bnd_some hF
    refine aw_mm hm10 ?_
    obtain ⟨y11, hy11, hF⟩ := bnd_some hF
    refine aw_iinc hK (cz := 1) 4 [(4, q_i y11), (8, q_i s0), (0, q_r 3), (2, q_i x2), (3, q_r a3), (5, q_i x5), (6, q_i x6), (7, q_i x7)] (by decide) rfl rfl hy11 rfl dX1_follow_102 ?_
    refine aw_sub [2, 3, 4, 0, 5, 6, 7] (lv' := [(0, q_r 3), (2, q_i x2), (3, q_r a3), (4, q_i y11), (5, q_i x5), (6, q_i x6), (7, q_i x7)]) rfl ?_
    exact bk_X1_follow_105 hK hR hrec_6 hrec_38 hk3 hF
def S_X1_follow_38 (N : Nat) (rec_6 : Mem → Int32 → Nat → Int32 → Int32 → Option (Int32 × Mem)) (rec_38 : Mem → Int32 → Nat → Int32 → Int32 → Int32 → Int32 → Option (Int32 × Mem)) (m : Mem) (x2 : Int32) (a3 : Nat) (x4 : Int32) (x5 : Int32) (x6 : Int32) (x7 : Int32) : Option (Int32 × Mem) :=
  if x6 < (0 : Int32) then (
    B_X1_follow_120 N rec_6 m x2 a3 x4 x5
  ) else (
    if (m 3 5) ≤ x7 then (
      B_X1_follow_120 N rec_6 m x2 a3 x4 x5
    ) else (
      if x2 = (0 : Int32) then (
        gd (inb x6 (alen 4)) <|
        B_X1_follow_79 N rec_6 rec_38 m x2 a3 x4 x5 x6 x7 (P_X7_fromOf (m 4 (ix x6)))
      ) else (
        gd (inb x6 (alen 4)) <|
        B_X1_follow_79 N rec_6 rec_38 m x2 a3 x4 x5 x6 x7 (P_X7_toOf (m 4 (ix x6)))
      )
    )
  )
def L_X1_follow_38 (N : Nat) (rec_6 : Mem → Int32 → Nat → Int32 → Int32 → Option (Int32 × Mem)) : Nat → Mem → Int32 → Nat → Int32 → Int32 → Int32 → Int32 → Option (Int32 × Mem)
  | 0 => fun _ _ _ _ _ _ _ => none
  | f + 1 => S_X1_follow_38 N rec_6 (L_X1_follow_38 N rec_6 f)
set_option maxRecDepth 100000 in
set_option maxHeartbeats 4000000 in
theorem lp_X1_follow_38 {N : Nat} {K : KT} {m' : Mem} {rec_6 : Mem → Int32 → Nat → Int32 → Int32 → Option (Int32 × Mem)} {r : Int32} (hK : KOK K cX1_follow 9 RX1 wsX1_follow 1 0 20) (hR : KRet K (some .int) (some r) m') (hrec_6 : ∀ {m : Mem} {x2 : Int32} {a3 : Nat} {x4 : Int32} {x5 : Int32} (hk3 : knd a3 = 11), rec_6 m x2 a3 x4 x5 = some (r, m') → AW K 0 6 [(0, q_r 3), (2, q_i x2), (3, q_r a3), (4, q_i x4), (5, q_i x5)] [] m) : ∀ (f : Nat) {m : Mem} {x2 : Int32} {a3 : Nat} {x4 : Int32} {x5 : Int32} {x6 : Int32} {x7 : Int32} (hk3 : knd a3 = 11), L_X1_follow_38 N rec_6 f m x2 a3 x4 x5 x6 x7 = some (r, m') → AW K 0 38 [(0, q_r 3), (2, q_i x2), (3, q_r a3), (4, q_i x4), (5, q_i x5), (6, q_i x6), (7, q_i x7)] [] m := by
  intro f
  induction f with
  | zero => intro m x2 a3 x4 x5 x6 x7 hk3 hF; cases hF
  | succ f hrec_38 =>
    intro m x2 a3 x4 x5 x6 x7 hk3 hF
    have hF : S_X1_follow_38 N rec_6 (L_X1_follow_38 N rec_6 f) m x2 a3 x4 x5 x6 x7 = some (r, m') := hF
    unfold S_X1_follow_38 at hF
    refine aw_iload hK 5 rfl dX1_follow_38 ?_
    refine aw_if_lt hK 120 rfl dX1_follow_40 (fun hc => ?_) (fun hc => ?_)
    · have hF := if_t hF hc
      refine aw_sub [0, 1, 2, 3, 4] (lv' := [(0, q_r 3), (2, q_i x2), (3, q_r a3), (4, q_i x4), (5, q_i x5)]) rfl ?_
      exact bk_X1_follow_120 hK hR hrec_6 hk3 hF
    · have hF := if_f hF hc
      refine aw_iload hK 6 rfl dX1_follow_43 ?_
      refine aw_aload_n hK 0 rfl dX1_follow_45 ?_
      refine gf_1_5 hK rfl (List.mem_of_getElem? (i := 3) rfl) dX1_follow_46 ?_
      refine aw_icmp_ge hK 120 rfl dX1_follow_49 (fun hc => ?_) (fun hc => ?_)
      · have hF := if_t hF hc
        refine aw_sub [0, 1, 2, 3, 4] (lv' := [(0, q_r 3), (2, q_i x2), (3, q_r a3), (4, q_i x4), (5, q_i x5)]) rfl ?_
        exact bk_X1_follow_120 hK hR hrec_6 hk3 hF
      · have hF := if_f hF hc
        refine aw_iload_n hK 1 rfl dX1_follow_52 ?_
        refine aw_if_eq hK 69 rfl dX1_follow_53 (fun hc => ?_) (fun hc => ?_)
        · have hF := if_t hF hc
          refine aw_aload_n hK 0 rfl dX1_follow_69 ?_
          refine gf_1_0 hK rfl (4) rfl (List.mem_of_getElem? (i := 4) rfl) dX1_follow_70 ?_
          refine aw_iload hK 5 rfl dX1_follow_73 ?_
          obtain ⟨g4, hF⟩ := gd_some hF
          refine aw_iald hK rfl g4 dX1_follow_75 ?_
          refine aw_csN hK (as := [q_i (m 4 (ix x6))]) (host := "AffixWorks") (trp_X7_fromOf (m 4 (ix x6)) _) gX1_follow_X7_fromOf_n74 rfl (List.mem_of_getElem? (i := 8) rfl) (List.mem_of_getElem? (i := 7) rfl) (List.mem_of_getElem? (i := 9) rfl) (na := 1) (by decide +kernel) rfl ⟨by decide, by decide⟩ (Nat.zero_le _) (Nat.le_of_ble_eq_true rfl) dX1_follow_76 ?_
          refine aw_sub [0, 1, 2, 3, 4, 5, 6] (lv' := [(0, q_r 3), (2, q_i x2), (3, q_r a3), (4, q_i x4), (5, q_i x5), (6, q_i x6), (7, q_i x7)]) rfl ?_
          exact bk_X1_follow_79 hK hR hrec_6 hrec_38 hk3 hF
        · have hF := if_f hF hc
          refine aw_aload_n hK 0 rfl dX1_follow_56 ?_
          refine gf_1_0 hK rfl (4) rfl (List.mem_of_getElem? (i := 4) rfl) dX1_follow_57 ?_
          refine aw_iload hK 5 rfl dX1_follow_60 ?_
          obtain ⟨g5, hF⟩ := gd_some hF
          refine aw_iald hK rfl g5 dX1_follow_62 ?_
          refine aw_csN hK (as := [q_i (m 4 (ix x6))]) (host := "AffixWorks") (trp_X7_toOf (m 4 (ix x6)) _) gX1_follow_X7_toOf_n85 rfl (List.mem_of_getElem? (i := 11) rfl) (List.mem_of_getElem? (i := 7) rfl) (List.mem_of_getElem? (i := 6) rfl) (na := 1) (by decide +kernel) rfl ⟨by decide, by decide⟩ (Nat.zero_le _) (Nat.le_of_ble_eq_true rfl) dX1_follow_63 ?_
          refine aw_goto hK 79 rfl dX1_follow_66 ?_
          refine aw_sub [0, 1, 2, 3, 4, 5, 6] (lv' := [(0, q_r 3), (2, q_i x2), (3, q_r a3), (4, q_i x4), (5, q_i x5), (6, q_i x6), (7, q_i x7)]) rfl ?_
          exact bk_X1_follow_79 hK hR hrec_6 hrec_38 hk3 hF
def S_X1_follow_6 (N : Nat) (rec_6 : Mem → Int32 → Nat → Int32 → Int32 → Option (Int32 × Mem)) (m : Mem) (x2 : Int32) (a3 : Nat) (x4 : Int32) (x5 : Int32) : Option (Int32 × Mem) :=
  if x4 ≤ x5 then (
    B_X1_follow_126 N m x4
  ) else (
    if (1024 : Int32) ≤ x5 then (
      B_X1_follow_126 N m x4
    ) else (
      gd (inb x5 (alen 9)) <|
      gd (inb (m 9 (ix x5)) (alen 7)) <|
      bnd (m 7 (ix (m 9 (ix x5)))) fun y3 =>
      L_X1_follow_38 N rec_6 N m x2 a3 x4 x5 y3 (0 : Int32)
    )
  )
def L_X1_follow_6 (N : Nat) : Nat → Mem → Int32 → Nat → Int32 → Int32 → Option (Int32 × Mem)
  | 0 => fun _ _ _ _ _ => none
  | f + 1 => S_X1_follow_6 N (L_X1_follow_6 N f)
set_option maxRecDepth 100000 in
set_option maxHeartbeats 4000000 in
theorem lp_X1_follow_6 {N : Nat} {K : KT} {m' : Mem} {r : Int32} (hK : KOK K cX1_follow 9 RX1 wsX1_follow 1 0 20) (hR : KRet K (some .int) (some r) m') : ∀ (f : Nat) {m : Mem} {x2 : Int32} {a3 : Nat} {x4 : Int32} {x5 : Int32} (hk3 : knd a3 = 11), L_X1_follow_6 N f m x2 a3 x4 x5 = some (r, m') → AW K 0 6 [(0, q_r 3), (2, q_i x2), (3, q_r a3), (4, q_i x4), (5, q_i x5)] [] m := by
  intro f
  induction f with
  | zero => intro m x2 a3 x4 x5 hk3 hF; cases hF
  | succ f hrec_6 =>
    intro m x2 a3 x4 x5 hk3 hF
    have hF : S_X1_follow_6 N (L_X1_follow_6 N f) m x2 a3 x4 x5 = some (r, m') := hF
    unfold S_X1_follow_6 at hF
    refine aw_iload hK 4 rfl dX1_follow_6 ?_
    refine aw_iload hK 3 rfl dX1_follow_8 ?_
    refine aw_icmp_ge hK 126 rfl dX1_follow_10 (fun hc => ?_) (fun hc => ?_)
    · have hF := if_t hF hc
      refine aw_sub [3] (lv' := [(4, q_i x4)]) rfl ?_
      exact bk_X1_follow_126 hK hR hF
    · have hF := if_f hF hc
      refine aw_iload hK 4 rfl dX1_follow_13 ?_
      refine aw_sipush hK (1024) rfl dX1_follow_15 ?_
      refine aw_icmp_ge hK 126 rfl dX1_follow_18 (fun hc => ?_) (fun hc => ?_)
      · have hF := if_t hF hc
        refine aw_sub [3] (lv' := [(4, q_i x4)]) rfl ?_
        exact bk_X1_follow_126 hK hR hF
      · have hF := if_f hF hc
        refine aw_aload_n hK 0 rfl dX1_follow_21 ?_
        refine gf_1_6 hK rfl (7) rfl (List.mem_of_getElem? (i := 1) rfl) dX1_follow_22 ?_
        refine aw_aload_n hK 0 rfl dX1_follow_25 ?_
        refine gf_1_8 hK rfl (9) rfl (List.mem_of_getElem? (i := 2) rfl) dX1_follow_26 ?_
        refine aw_iload hK 4 rfl dX1_follow_29 ?_
        obtain ⟨g1, hF⟩ := gd_some hF
        refine aw_iald hK rfl g1 dX1_follow_31 ?_
        obtain ⟨g2, hF⟩ := gd_some hF
        refine aw_iald hK rfl g2 dX1_follow_32 ?_
        obtain ⟨y3, hy3, hF⟩ := bnd_some hF
        refine aw_nm hy3 ?_
        refine aw_istore hK [(6, q_i y3), (0, q_r 3), (2, q_i x2), (3, q_r a3), (4, q_i x4), (5, q_i x5)] (by decide) rfl dX1_follow_33 ?_
        refine aw_iconst hK (0) rfl dX1_follow_35 ?_
        refine aw_istore hK [(7, q_i (0 : Int32)), (6, q_i y3), (0, q_r 3), (2, q_i x2), (3, q_r a3), (4, q_i x4), (5, q_i x5)] (by decide) rfl dX1_follow_36 ?_
        refine aw_sub [2, 3, 4, 5, 6, 1, 0] (lv' := [(0, q_r 3), (2, q_i x2), (3, q_r a3), (4, q_i x4), (5, q_i x5), (6, q_i y3), (7, q_i (0 : Int32))]) rfl ?_
        exact lp_X1_follow_38 hK hR hrec_6 _ hk3 hF
def F_X1_follow (N : Nat) (m : Mem) (x1 : Int32) (x2 : Int32) (a3 : Nat) : Option (Int32 × Mem) :=
  L_X1_follow_6 N N m x2 a3 x1 (0 : Int32)
set_option maxRecDepth 100000 in
set_option maxHeartbeats 4000000 in
theorem tr_X1_follow {N : Nat} {m m' : Mem} {r : Int32} {x1 : Int32} {x2 : Int32} {a3 : Nat} (hk3 : knd a3 = 11) (hF : F_X1_follow N m x1 x2 a3 = some (r, m')) : Tr yX1_follow wsX1_follow 1 20 [q_r 3, q_i x1, q_i x2, q_r a3] m (some r) m' := by
  refine tr_of (bytes := cX1_follow) (maxL := 9) (ret := (some .int)) (by decide) rfl (Nat.le_of_ble_eq_true rfl) (fun K hK hR => ?_)
  have hK : KOK K cX1_follow 9 RX1 wsX1_follow 1 0 20 := hK
  show AW K 0 0 [(0, q_r 3), (1, q_i x1), (2, q_i x2), (3, q_r a3)] [] m
  unfold F_X1_follow at hF
  refine aw_iload_n hK 1 rfl dX1_follow_0 ?_
  refine aw_istore hK [(4, q_i x1), (0, q_r 3), (1, q_i x1), (2, q_i x2), (3, q_r a3)] (by decide) rfl dX1_follow_1 ?_
  refine aw_iconst hK (0) rfl dX1_follow_3 ?_
  refine aw_istore hK [(5, q_i (0 : Int32)), (4, q_i x1), (0, q_r 3), (1, q_i x1), (2, q_i x2), (3, q_r a3)] (by decide) rfl dX1_follow_4 ?_
  refine aw_sub [2, 4, 5, 1, 0] (lv' := [(0, q_r 3), (2, q_i x2), (3, q_r a3), (4, q_i x1), (5, q_i (0 : Int32))]) rfl ?_
  exact lp_X1_follow_6 hK hR _ hk3 hF
def S_X1_markReached_2 (N : Nat) (rec_2 : Mem → Int32 → Option Mem) (m : Mem) (x1 : Int32) : Option Mem :=
  if (m 3 3) ≤ x1 then (
    gd (inb (m 3 4) (alen 10)) <|
    bnd (mup m 10 (ix (m 3 4)) (1 : Int32)) fun m2 =>
    gd (inb (0 : Int32) (alen 9)) <|
    bnd (mup m2 9 (ix (0 : Int32)) (m2 3 4)) fun m4 =>
    calv (F_X1_linkArcs N m4 (1 : Int32)) fun m6 =>
    cal (F_X1_follow N m6 (1 : Int32) (1 : Int32) 10) fun r9 m8 =>
    some m8
  ) else (
    gd (inb x1 (alen 10)) <|
    bnd (mup m 10 (ix x1) (0 : Int32)) fun m11 =>
    bnd (x1 + (1 : Int32)) fun y12 =>
    rec_2 m11 y12
  )
def L_X1_markReached_2 (N : Nat) : Nat → Mem → Int32 → Option Mem
  | 0 => fun _ _ => none
  | f + 1 => S_X1_markReached_2 N (L_X1_markReached_2 N f)
set_option maxRecDepth 100000 in
set_option maxHeartbeats 4000000 in
theorem lp_X1_markReached_2 {N : Nat} {K : KT} {m' : Mem} (hK : KOK K cX1_markReached 2 RX1 wsX1_markReached 2 0 48) (hR : KRet K none none m') : ∀ (f : Nat) {m : Mem} {x1 : Int32}, L_X1_markReached_2 N f m x1 = some m' → AW K 0 2 [(0, q_r 3), (1, q_i x1)] [] m := by
  intro f
  induction f with
  | zero => intro m x1 hF; cases hF
  | succ f hrec_2 =>
    intro m x1 hF
    have hF : S_X1_markReached_2 N (L_X1_markReached_2 N f) m x1 = some m' := hF
    unfold S_X1_markReached_2 at hF
    refine aw_iload_n hK 1 rfl dX1_markReached_2 ?_
    refine aw_aload_n hK 0 rfl dX1_markReached_3 ?_
    refine gf_1_3 hK rfl (List.mem_of_getElem? (i := 1) rfl) dX1_markReached_4 ?_
    refine aw_icmp_ge hK 23 rfl dX1_markReached_7 (fun hc => ?_) (fun hc => ?_)
    · have hF := if_t hF hc
      refine aw_aload_n hK 0 rfl dX1_markReached_23 ?_
      refine gf_1_9 hK rfl (10) rfl (List.mem_of_getElem? (i := 2) rfl) dX1_markReached_24 ?_
      refine aw_aload_n hK 0 rfl dX1_markReached_27 ?_
      refine gf_1_4 hK rfl (List.mem_of_getElem? (i := 3) rfl) dX1_markReached_28 ?_
      refine aw_iconst hK (1) rfl dX1_markReached_31 ?_
      obtain ⟨g1, hF⟩ := gd_some hF
      refine aw_zast hK rfl g1 rfl dX1_markReached_32 ?_
      obtain ⟨m2, hm2, hF⟩ := bnd_some hF
      refine aw_mm hm2 ?_
      refine aw_aload_n hK 0 rfl dX1_markReached_33 ?_
      refine gf_1_8 hK rfl (9) rfl (List.mem_of_getElem? (i := 4) rfl) dX1_markReached_34 ?_
      refine aw_iconst hK (0) rfl dX1_markReached_37 ?_
      refine aw_aload_n hK 0 rfl dX1_markReached_38 ?_
      refine gf_1_4 hK rfl (List.mem_of_getElem? (i := 3) rfl) dX1_markReached_39 ?_
      obtain ⟨g3, hF⟩ := gd_some hF
      refine aw_iast hK rfl g3 dX1_markReached_42 ?_
      obtain ⟨m4, hm4, hF⟩ := bnd_some hF
      refine aw_mm hm4 ?_
      refine aw_aload_n hK 0 rfl dX1_markReached_43 ?_
      refine aw_iconst hK (1) rfl dX1_markReached_44 ?_
      obtain ⟨m6, h5, hF⟩ := calv_some hF
      refine aw_cv hK 1 (as := [q_i (1 : Int32)]) (tr_X1_linkArcs h5) gX1_markReached_X1_linkArcs rfl rfl rfl (by decide) (na := 1) (by decide +kernel) rfl ⟨by decide, by decide⟩ (Nat.zero_le _) (Nat.le_of_ble_eq_true rfl) dX1_markReached_45 ?_
      refine aw_aload_n hK 0 rfl dX1_markReached_48 ?_
      refine aw_iconst hK (1) rfl dX1_markReached_49 ?_
      refine aw_iconst hK (1) rfl dX1_markReached_50 ?_
      refine aw_aload_n hK 0 rfl dX1_markReached_51 ?_
      refine gf_1_9 hK rfl (10) rfl (List.mem_of_getElem? (i := 2) rfl) dX1_markReached_52 ?_
      obtain ⟨r9, m8, h7, hF⟩ := cal_some hF
      refine aw_cv hK 1 (as := [q_i (1 : Int32), q_i (1 : Int32), q_r 10]) (tr_X1_follow rfl h7) gX1_markReached_X1_follow rfl rfl rfl (by decide) (na := 3) (by decide +kernel) rfl ⟨by decide, by decide⟩ (Nat.zero_le _) (Nat.le_of_ble_eq_true rfl) dX1_markReached_55 ?_
      refine aw_pop hK rfl dX1_markReached_58 ?_
      obtain rfl := Option.some.inj hF
      exact aw_vret hK hR dX1_markReached_59
    · have hF := if_f hF hc
      refine aw_aload_n hK 0 rfl dX1_markReached_10 ?_
      refine gf_1_9 hK rfl (10) rfl (List.mem_of_getElem? (i := 2) rfl) dX1_markReached_11 ?_
      refine aw_iload_n hK 1 rfl dX1_markReached_14 ?_
      refine aw_iconst hK (0) rfl dX1_markReached_15 ?_
      obtain ⟨g10, hF⟩ := gd_some hF
      refine aw_zast hK rfl g10 rfl dX1_markReached_16 ?_
      obtain ⟨m11, hm11, hF⟩ := bnd_some hF
      refine aw_mm hm11 ?_
      obtain ⟨y12, hy12, hF⟩ := bnd_some hF
      refine aw_iinc hK (cz := 1) 1 [(1, q_i y12), (0, q_r 3)] (by decide) rfl rfl hy12 rfl dX1_markReached_17 ?_
      refine aw_goto hK 2 rfl dX1_markReached_20 ?_
      refine aw_sub [1, 0] (lv' := [(0, q_r 3), (1, q_i y12)]) rfl ?_
      exact hrec_2 hF
def F_X1_markReached (N : Nat) (m : Mem) : Option Mem :=
  L_X1_markReached_2 N N m (0 : Int32)
set_option maxRecDepth 100000 in
set_option maxHeartbeats 4000000 in
theorem tr_X1_markReached {N : Nat} {m m' : Mem} (hF : F_X1_markReached N m = some m') : Tr yX1_markReached wsX1_markReached 2 48 [q_r 3] m none m' := by
  refine tr_of (bytes := cX1_markReached) (maxL := 2) (ret := none) (by decide) rfl (Nat.le_of_ble_eq_true rfl) (fun K hK hR => ?_)
  have hK : KOK K cX1_markReached 2 RX1 wsX1_markReached 2 0 48 := hK
  show AW K 0 0 [(0, q_r 3)] [] m
  unfold F_X1_markReached at hF
  refine aw_iconst hK (0) rfl dX1_markReached_0 ?_
  refine aw_istore_n hK [(1, q_i (0 : Int32)), (0, q_r 3)] (by decide) rfl dX1_markReached_1 ?_
  refine aw_sub [1, 0] (lv' := [(0, q_r 3), (1, q_i (0 : Int32))]) rfl ?_
  exact lp_X1_markReached_2 hK hR _ hF
def B_X1_markUseful_60 (N : Nat) (rec_4 : Mem → Int32 → Int32 → Option (Int32 × Mem)) (m : Mem) (x1 : Int32) (x2 : Int32) : Option (Int32 × Mem) :=
  bnd (x2 + (1 : Int32)) fun y15 =>
  rec_4 m x1 y15
set_option maxRecDepth 100000 in
set_option maxHeartbeats 4000000 in
theorem bk_X1_markUseful_60 {N : Nat} {K : KT} {m' : Mem} {rec_4 : Mem → Int32 → Int32 → Option (Int32 × Mem)} {r : Int32} (hK : KOK K cX1_markUseful 3 RX1 wsX1_markUseful 2 0 48) (hR : KRet K (some .int) (some r) m') (hrec_4 : ∀ {m : Mem} {x1 : Int32} {x2 : Int32}, rec_4 m x1 x2 = some (r, m') → AW K 0 4 [(0, q_r 3), (1, q_i x1), (2, q_i x2)] [] m) {m : Mem} {x1 : Int32} {x2 : Int32} (hF : B_X1_markUseful_60 N rec_4 m x1 x2 = some (r, m')) : AW K 0 60 [(0, q_r 3), (1, q_i x1), (2, q_i x2)] [] m := by
  unfold B_X1_markUseful_60 at hF
  obtain ⟨y15, hy15, hF⟩ := bnd_some hF
  refine aw_iinc hK (cz := 1) 2 [(2, q_i y15), (0, q_r 3), (1, q_i x1)] (by decide) rfl rfl hy15 rfl dX1_markUseful_60 ?_
  refine aw_goto hK 4 rfl dX1_markUseful_63 ?_
  refine aw_sub [1, 2, 0] (lv' := [(0, q_r 3), (1, q_i x1), (2, q_i y15)]) rfl ?_
  exact hrec_4 hF
def B_X1_markUseful_40 (N : Nat) (rec_4 : Mem → Int32 → Int32 → Option (Int32 × Mem)) (m : Mem) (x1 : Int32) (x2 : Int32) (s0 : Int32) (s1 : Int32) : Option (Int32 × Mem) :=
  gd (inb s1 (alen 11)) <|
  gd (isb s0) <|
  bnd (mup m 11 (ix s1) s0) fun m10 =>
  gd (inb x2 (alen 11)) <|
  if (m10 11 (ix x2)) = (0 : Int32) then (
    B_X1_markUseful_60 N rec_4 m10 x1 x2
  ) else (
    gd (inb x1 (alen 9)) <|
    bnd (mup m10 9 (ix x1) x2) fun m13 =>
    bnd (x1 + (1 : Int32)) fun y14 =>
    B_X1_markUseful_60 N rec_4 m13 y14 x2
  )
set_option maxRecDepth 100000 in
set_option maxHeartbeats 4000000 in
theorem bk_X1_markUseful_40 {N : Nat} {K : KT} {m' : Mem} {rec_4 : Mem → Int32 → Int32 → Option (Int32 × Mem)} {r : Int32} (hK : KOK K cX1_markUseful 3 RX1 wsX1_markUseful 2 0 48) (hR : KRet K (some .int) (some r) m') (hrec_4 : ∀ {m : Mem} {x1 : Int32} {x2 : Int32}, rec_4 m x1 x2 = some (r, m') → AW K 0 4 [(0, q_r 3), (1, q_i x1), (2, q_i x2)] [] m) {m : Mem} {x1 : Int32} {x2 : Int32} {s0 : Int32} {s1 : Int32} (hF : B_X1_markUseful_40 N rec_4 m x1 x2 s0 s1 = some (r, m')) : AW K 0 40 [(0, q_r 3), (1, q_i x1), (2, q_i x2)] [q_i s0, q_i s1, q_r 11] m := by
  unfold B_X1_markUseful_40 at hF
  obtain ⟨g8, hF⟩ := gd_some hF
  obtain ⟨g9, hF⟩ := gd_some hF
  refine aw_zast hK rfl g8 g9 dX1_markUseful_40 ?_
  obtain ⟨m10, hm10, hF⟩ := bnd_some hF
  refine aw_mm hm10 ?_
  refine aw_aload_n hK 0 rfl dX1_markUseful_41 ?_
  refine gf_1_10 hK rfl (11) rfl (List.mem_of_getElem? (i := 2) rfl) dX1_markUseful_42 ?_
  refine aw_iload_n hK 2 rfl dX1_markUseful_45 ?_
  obtain ⟨g11, hF⟩ := gd_some hF
  refine aw_zald hK rfl g11 dX1_markUseful_46 ?_
  refine aw_if_eq hK 60 rfl dX1_markUseful_47 (fun hc => ?_) (fun hc => ?_)
  · have hF := if_t hF hc
    refine aw_sub [0, 1, 2] (lv' := [(0, q_r 3), (1, q_i x1), (2, q_i x2)]) rfl ?_
    exact bk_X1_markUseful_60 hK hR hrec_4 hF
  · have hF := if_f hF hc
    refine aw_aload_n hK 0 rfl dX1_markUseful_50 ?_
    refine gf_1_8 hK rfl (9) rfl (List.mem_of_getElem? (i := 5) rfl) dX1_markUseful_51 ?_
    refine aw_iload_n hK 1 rfl dX1_markUseful_54 ?_
    refine aw_iload_n hK 2 rfl dX1_markUseful_55 ?_
    obtain ⟨g12, hF⟩ := gd_some hF
    refine aw_iast hK rfl g12 dX1_markUseful_56 ?_
    obtain ⟨m13, hm13, hF⟩ := bnd_some hF
    refine aw_mm hm13 ?_
    obtain ⟨y14, hy14, hF⟩ := bnd_some hF
    refine aw_iinc hK (cz := 1) 1 [(1, q_i y14), (0, q_r 3), (2, q_i x2)] (by decide) rfl rfl hy14 rfl dX1_markUseful_57 ?_
    refine aw_sub [1, 0, 2] (lv' := [(0, q_r 3), (1, q_i y14), (2, q_i x2)]) rfl ?_
    exact bk_X1_markUseful_60 hK hR hrec_4 hF
def B_X1_markUseful_39 (N : Nat) (rec_4 : Mem → Int32 → Int32 → Option (Int32 × Mem)) (m : Mem) (x1 : Int32) (x2 : Int32) (s0 : Int32) : Option (Int32 × Mem) :=
  B_X1_markUseful_40 N rec_4 m x1 x2 (0 : Int32) s0
set_option maxRecDepth 100000 in
set_option maxHeartbeats 4000000 in
theorem bk_X1_markUseful_39 {N : Nat} {K : KT} {m' : Mem} {rec_4 : Mem → Int32 → Int32 → Option (Int32 × Mem)} {r : Int32} (hK : KOK K cX1_markUseful 3 RX1 wsX1_markUseful 2 0 48) (hR : KRet K (some .int) (some r) m') (hrec_4 : ∀ {m : Mem} {x1 : Int32} {x2 : Int32}, rec_4 m x1 x2 = some (r, m') → AW K 0 4 [(0, q_r 3), (1, q_i x1), (2, q_i x2)] [] m) {m : Mem} {x1 : Int32} {x2 : Int32} {s0 : Int32} (hF : B_X1_markUseful_39 N rec_4 m x1 x2 s0 = some (r, m')) : AW K 0 39 [(0, q_r 3), (1, q_i x1), (2, q_i x2)] [q_i s0, q_r 11] m := by
  unfold B_X1_markUseful_39 at hF
  refine aw_iconst hK (0) rfl dX1_markUseful_39 ?_
  refine aw_sub [0, 1, 2] (lv' := [(0, q_r 3), (1, q_i x1), (2, q_i x2)]) rfl ?_
  exact bk_X1_markUseful_40 hK hR hrec_4 hF
def S_X1_markUseful_4 (N : Nat) (rec_4 : Mem → Int32 → Int32 → Option (Int32 × Mem)) (m : Mem) (x1 : Int32) (x2 : Int32) : Option (Int32 × Mem) :=
  if (m 3 3) ≤ x2 then (
    calv (F_X1_linkArcs N m (0 : Int32)) fun m2 =>
    cal (F_X1_follow N m2 x1 (0 : Int32) 11) fun r5 m4 =>
    some (r5, m4)
  ) else (
    gd (inb x2 (alen 10)) <|
    if (m 10 (ix x2)) = (0 : Int32) then (
      B_X1_markUseful_39 N rec_4 m x1 x2 x2
    ) else (
      gd (inb x2 (alen 6)) <|
      if (m 6 (ix x2)) = (0 : Int32) then (
        B_X1_markUseful_39 N rec_4 m x1 x2 x2
      ) else (
        B_X1_markUseful_40 N rec_4 m x1 x2 (1 : Int32) x2
      )
    )
  )
def L_X1_markUseful_4 (N : Nat) : Nat → Mem → Int32 → Int32 → Option (Int32 × Mem)
  | 0 => fun _ _ _ => none
  | f + 1 => S_X1_markUseful_4 N (L_X1_markUseful_4 N f)
set_option maxRecDepth 100000 in
set_option maxHeartbeats 4000000 in
theorem lp_X1_markUseful_4 {N : Nat} {K : KT} {m' : Mem} {r : Int32} (hK : KOK K cX1_markUseful 3 RX1 wsX1_markUseful 2 0 48) (hR : KRet K (some .int) (some r) m') : ∀ (f : Nat) {m : Mem} {x1 : Int32} {x2 : Int32}, L_X1_markUseful_4 N f m x1 x2 = some (r, m') → AW K 0 4 [(0, q_r 3), (1, q_i x1), (2, q_i x2)] [] m := by
  intro f
  induction f with
  | zero => intro m x1 x2 hF; cases hF
  | succ f hrec_4 =>
    intro m x1 x2 hF
    have hF : S_X1_markUseful_4 N (L_X1_markUseful_4 N f) m x1 x2 = some (r, m') := hF
    unfold S_X1_markUseful_4 at hF
    refine aw_iload_n hK 2 rfl dX1_markUseful_4 ?_
    refine aw_aload_n hK 0 rfl dX1_markUseful_5 ?_
    refine gf_1_3 hK rfl (List.mem_of_getElem? (i := 1) rfl) dX1_markUseful_6 ?_
    refine aw_icmp_ge hK 66 rfl dX1_markUseful_9 (fun hc => ?_) (fun hc => ?_)
    · have hF := if_t hF hc
      refine aw_aload_n hK 0 rfl dX1_markUseful_66 ?_
      refine aw_iconst hK (0) rfl dX1_markUseful_67 ?_
      obtain ⟨m2, h1, hF⟩ := calv_some hF
      refine aw_cv hK 1 (as := [q_i (0 : Int32)]) (tr_X1_linkArcs h1) gX1_markUseful_X1_linkArcs rfl rfl rfl (by decide) (na := 1) (by decide +kernel) rfl ⟨by decide, by decide⟩ (Nat.zero_le _) (Nat.le_of_ble_eq_true rfl) dX1_markUseful_68 ?_
      refine aw_aload_n hK 0 rfl dX1_markUseful_71 ?_
      refine aw_iload_n hK 1 rfl dX1_markUseful_72 ?_
      refine aw_iconst hK (0) rfl dX1_markUseful_73 ?_
      refine aw_aload_n hK 0 rfl dX1_markUseful_74 ?_
      refine gf_1_10 hK rfl (11) rfl (List.mem_of_getElem? (i := 2) rfl) dX1_markUseful_75 ?_
      obtain ⟨r5, m4, h3, hF⟩ := cal_some hF
      refine aw_cv hK 1 (as := [q_i x1, q_i (0 : Int32), q_r 11]) (tr_X1_follow rfl h3) gX1_markUseful_X1_follow rfl rfl rfl (by decide) (na := 3) (by decide +kernel) rfl ⟨by decide, by decide⟩ (Nat.zero_le _) (Nat.le_of_ble_eq_true rfl) dX1_markUseful_78 ?_
      obtain ⟨rfl, rfl⟩ := so_inj hF
      exact aw_iret hK hR rfl dX1_markUseful_81
    · have hF := if_f hF hc
      refine aw_aload_n hK 0 rfl dX1_markUseful_12 ?_
      refine gf_1_10 hK rfl (11) rfl (List.mem_of_getElem? (i := 2) rfl) dX1_markUseful_13 ?_
      refine aw_iload_n hK 2 rfl dX1_markUseful_16 ?_
      refine aw_aload_n hK 0 rfl dX1_markUseful_17 ?_
      refine gf_1_9 hK rfl (10) rfl (List.mem_of_getElem? (i := 3) rfl) dX1_markUseful_18 ?_
      refine aw_iload_n hK 2 rfl dX1_markUseful_21 ?_
      obtain ⟨g6, hF⟩ := gd_some hF
      refine aw_zald hK rfl g6 dX1_markUseful_22 ?_
      refine aw_if_eq hK 39 rfl dX1_markUseful_23 (fun hc => ?_) (fun hc => ?_)
      · have hF := if_t hF hc
        refine aw_sub [0, 1, 2] (lv' := [(0, q_r 3), (1, q_i x1), (2, q_i x2)]) rfl ?_
        exact bk_X1_markUseful_39 hK hR hrec_4 hF
      · have hF := if_f hF hc
        refine aw_aload_n hK 0 rfl dX1_markUseful_26 ?_
        refine gf_1_2 hK rfl (6) rfl (List.mem_of_getElem? (i := 4) rfl) dX1_markUseful_27 ?_
        refine aw_iload_n hK 2 rfl dX1_markUseful_30 ?_
        obtain ⟨g7, hF⟩ := gd_some hF
        refine aw_zald hK rfl g7 dX1_markUseful_31 ?_
        refine aw_if_eq hK 39 rfl dX1_markUseful_32 (fun hc => ?_) (fun hc => ?_)
        · have hF := if_t hF hc
          refine aw_sub [0, 1, 2] (lv' := [(0, q_r 3), (1, q_i x1), (2, q_i x2)]) rfl ?_
          exact bk_X1_markUseful_39 hK hR hrec_4 hF
        · have hF := if_f hF hc
          refine aw_iconst hK (1) rfl dX1_markUseful_35 ?_
          refine aw_goto hK 40 rfl dX1_markUseful_36 ?_
          refine aw_sub [0, 1, 2] (lv' := [(0, q_r 3), (1, q_i x1), (2, q_i x2)]) rfl ?_
          exact bk_X1_markUseful_40 hK hR hrec_4 hF
def F_X1_markUseful (N : Nat) (m : Mem) : Option (Int32 × Mem) :=
  L_X1_markUseful_4 N N m (0 : Int32) (0 : Int32)
set_option maxRecDepth 100000 in
set_option maxHeartbeats 4000000 in
theorem tr_X1_markUseful {N : Nat} {m m' : Mem} {r : Int32} (hF : F_X1_markUseful N m = some (r, m')) : Tr yX1_markUseful wsX1_markUseful 2 48 [q_r 3] m (some r) m' := by
  refine tr_of (bytes := cX1_markUseful) (maxL := 3) (ret := (some .int)) (by decide) rfl (Nat.le_of_ble_eq_true rfl) (fun K hK hR => ?_)
  have hK : KOK K cX1_markUseful 3 RX1 wsX1_markUseful 2 0 48 := hK
  show AW K 0 0 [(0, q_r 3)] [] m
  unfold F_X1_markUseful at hF
  refine aw_iconst hK (0) rfl dX1_markUseful_0 ?_
  refine aw_istore_n hK [(1, q_i (0 : Int32)), (0, q_r 3)] (by decide) rfl dX1_markUseful_1 ?_
  refine aw_iconst hK (0) rfl dX1_markUseful_2 ?_
  refine aw_istore_n hK [(2, q_i (0 : Int32)), (1, q_i (0 : Int32)), (0, q_r 3)] (by decide) rfl dX1_markUseful_3 ?_
  refine aw_sub [2, 1, 0] (lv' := [(0, q_r 3), (1, q_i (0 : Int32)), (2, q_i (0 : Int32))]) rfl ?_
  exact lp_X1_markUseful_4 hK hR _ hF
def B_X0_placeOf_58 (N : Nat) (m : Mem) (x2 : Int32) : Option (Int32 × Mem) :=
  some (x2, m)
set_option maxRecDepth 100000 in
set_option maxHeartbeats 4000000 in
theorem bk_X0_placeOf_58 {N : Nat} {K : KT} {m' : Mem} {r : Int32} (hK : KOK K cX0_placeOf 6 RX0 wsX0_placeOf 0 0 0) (hR : KRet K (some .int) (some r) m') {m : Mem} {x2 : Int32} (hF : B_X0_placeOf_58 N m x2 = some (r, m')) : AW K 0 58 [(2, q_i x2)] [] m := by
  unfold B_X0_placeOf_58 at hF
  refine aw_iload_n hK 0 rfl dX0_placeOf_58 ?_
  obtain ⟨rfl, rfl⟩ := so_inj hF
  exact aw_iret hK hR rfl dX0_placeOf_59
def B_X0_placeOf_52 (N : Nat) (rec_10 : Mem → Nat → Int32 → Int32 → Int32 → Int32 → Option (Int32 × Mem)) (m : Mem) (a0 : Nat) (x1 : Int32) (x2 : Int32) (x3 : Int32) (x4 : Int32) : Option (Int32 × Mem) :=
  bnd (x4 + (1 : Int32)) fun y5 =>
  rec_10 m a0 x1 x2 x3 y5
set_option maxRecDepth 100000 in
set_option maxHeartbeats 4000000 in
theorem bk_X0_placeOf_52 {N : Nat} {K : KT} {m' : Mem} {rec_10 : Mem → Nat → Int32 → Int32 → Int32 → Int32 → Option (Int32 × Mem)} {r : Int32} (hK : KOK K cX0_placeOf 6 RX0 wsX0_placeOf 0 0 0) (hR : KRet K (some .int) (some r) m') (hrec_10 : ∀ {m : Mem} {a0 : Nat} {x1 : Int32} {x2 : Int32} {x3 : Int32} {x4 : Int32} (hk0 : knd a0 = 0), rec_10 m a0 x1 x2 x3 x4 = some (r, m') → AW K 0 10 [(0, q_r a0), (1, q_i x1), (2, q_i x2), (3, q_i x3), (4, q_i x4)] [] m) {m : Mem} {a0 : Nat} {x1 : Int32} {x2 : Int32} {x3 : Int32} {x4 : Int32} (hk0 : knd a0 = 0) (hF : B_X0_placeOf_52 N rec_10 m a0 x1 x2 x3 x4 = some (r, m')) : AW K 0 52 [(0, q_r a0), (1, q_i x1), (2, q_i x2), (3, q_i x3), (4, q_i x4)] [] m := by
  unfold B_X0_placeOf_52 at hF
  obtain ⟨y5, hy5, hF⟩ := bnd_some hF
  refine aw_iinc hK (cz := 1) 4 [(4, q_i y5), (0, q_r a0), (1, q_i x1), (2, q_i x2), (3, q_i x3)] (by decide) rfl rfl hy5 rfl dX0_placeOf_52 ?_
  refine aw_goto hK 10 rfl dX0_placeOf_55 ?_
  refine aw_sub [1, 2, 3, 4, 0] (lv' := [(0, q_r a0), (1, q_i x1), (2, q_i x2), (3, q_i x3), (4, q_i y5)]) rfl ?_
  exact hrec_10 hk0 hF
def S_X0_placeOf_10 (N : Nat) (rec_10 : Mem → Nat → Int32 → Int32 → Int32 → Int32 → Option (Int32 × Mem)) (m : Mem) (a0 : Nat) (x1 : Int32) (x2 : Int32) (x3 : Int32) (x4 : Int32) : Option (Int32 × Mem) :=
  if x3 ≤ x2 then (
    B_X0_placeOf_58 N m x2
  ) else (
    if (160 : Int32) ≤ x4 then (
      B_X0_placeOf_58 N m x2
    ) else (
      bnd ((x2 + x3) / (2 : Int32)) fun y2 =>
      gd (inb y2 (alen (a0 + 1))) <|
      if x1 ≤ (m (a0 + 1) (ix y2)) then (
        B_X0_placeOf_52 N rec_10 m a0 x1 x2 y2 x4
      ) else (
        bnd (y2 + (1 : Int32)) fun y4 =>
        B_X0_placeOf_52 N rec_10 m a0 x1 y4 x3 x4
      )
    )
  )
def L_X0_placeOf_10 (N : Nat) : Nat → Mem → Nat → Int32 → Int32 → Int32 → Int32 → Option (Int32 × Mem)
  | 0 => fun _ _ _ _ _ _ => none
  | f + 1 => S_X0_placeOf_10 N (L_X0_placeOf_10 N f)
set_option maxRecDepth 100000 in
set_option maxHeartbeats 4000000 in
theorem lp_X0_placeOf_10 {N : Nat} {K : KT} {m' : Mem} {r : Int32} (hK : KOK K cX0_placeOf 6 RX0 wsX0_placeOf 0 0 0) (hR : KRet K (some .int) (some r) m') : ∀ (f : Nat) {m : Mem} {a0 : Nat} {x1 : Int32} {x2 : Int32} {x3 : Int32} {x4 : Int32} (hk0 : knd a0 = 0), L_X0_placeOf_10 N f m a0 x1 x2 x3 x4 = some (r, m') → AW K 0 10 [(0, q_r a0), (1, q_i x1), (2, q_i x2), (3, q_i x3), (4, q_i x4)] [] m := by
  intro f
  induction f with
  | zero => intro m a0 x1 x2 x3 x4 hk0 hF; cases hF
  | succ f hrec_10 =>
    intro m a0 x1 x2 x3 x4 hk0 hF
    have hF : S_X0_placeOf_10 N (L_X0_placeOf_10 N f) m a0 x1 x2 x3 x4 = some (r, m') := hF
    unfold S_X0_placeOf_10 at hF
    refine aw_iload_n hK 2 rfl dX0_placeOf_10 ?_
    refine aw_iload_n hK 3 rfl dX0_placeOf_11 ?_
    refine aw_icmp_ge hK 58 rfl dX0_placeOf_12 (fun hc => ?_) (fun hc => ?_)
    · have hF := if_t hF hc
      refine aw_sub [2] (lv' := [(2, q_i x2)]) rfl ?_
      exact bk_X0_placeOf_58 hK hR hF
    · have hF := if_f hF hc
      refine aw_iload hK 4 rfl dX0_placeOf_15 ?_
      refine aw_sipush hK (160) rfl dX0_placeOf_17 ?_
      refine aw_icmp_ge hK 58 rfl dX0_placeOf_20 (fun hc => ?_) (fun hc => ?_)
      · have hF := if_t hF hc
        refine aw_sub [2] (lv' := [(2, q_i x2)]) rfl ?_
        exact bk_X0_placeOf_58 hK hR hF
      · have hF := if_f hF hc
        refine aw_iload_n hK 2 rfl dX0_placeOf_23 ?_
        refine aw_iload_n hK 3 rfl dX0_placeOf_24 ?_
        refine aw_iadd hK dX0_placeOf_25 ?_
        refine aw_iconst hK (2) rfl dX0_placeOf_26 ?_
        refine aw_idiv hK (by decide) dX0_placeOf_27 ?_
        obtain ⟨y2, hy2, hF⟩ := bnd_some hF
        refine aw_nm hy2 ?_
        refine aw_istore hK [(5, q_i y2), (0, q_r a0), (1, q_i x1), (2, q_i x2), (3, q_i x3), (4, q_i x4)] (by decide) rfl dX0_placeOf_28 ?_
        refine aw_aload_n hK 1 rfl dX0_placeOf_30 ?_
        refine gf_0_0 hK hk0 (a0 + 1) rfl (List.mem_of_getElem? (i := 2) rfl) dX0_placeOf_31 ?_
        refine aw_iload hK 0 rfl dX0_placeOf_34 ?_
        obtain ⟨g3, hF⟩ := gd_some hF
        refine aw_iald hK (kA1 hk0) g3 dX0_placeOf_36 ?_
        refine aw_iload_n hK 2 rfl dX0_placeOf_37 ?_
        refine aw_icmp_ge hK 49 rfl dX0_placeOf_38 (fun hc => ?_) (fun hc => ?_)
        · have hF := if_t hF hc
          refine aw_iload hK 0 rfl dX0_placeOf_49 ?_
          refine aw_istore_n hK [(3, q_i y2), (5, q_i y2), (0, q_r a0), (1, q_i x1), (2, q_i x2), (4, q_i x4)] (by decide) rfl dX0_placeOf_51 ?_
          refine aw_sub [2, 3, 4, 0, 5] (lv' := [(0, q_r a0), (1, q_i x1), (2, q_i x2), (3, q_i y2), (4, q_i x4)]) rfl ?_
          exact bk_X0_placeOf_52 hK hR hrec_10 hk0 hF
        · have hF := if_f hF hc
          refine aw_iload hK 0 rfl dX0_placeOf_41 ?_
          refine aw_iconst hK (1) rfl dX0_placeOf_43 ?_
          refine aw_iadd hK dX0_placeOf_44 ?_
          obtain ⟨y4, hy4, hF⟩ := bnd_some hF
          refine aw_nm hy4 ?_
          refine aw_istore_n hK [(2, q_i y4), (5, q_i y2), (0, q_r a0), (1, q_i x1), (3, q_i x3), (4, q_i x4)] (by decide) rfl dX0_placeOf_45 ?_
          refine aw_goto hK 52 rfl dX0_placeOf_46 ?_
          refine aw_sub [2, 3, 0, 4, 5] (lv' := [(0, q_r a0), (1, q_i x1), (2, q_i y4), (3, q_i x3), (4, q_i x4)]) rfl ?_
          exact bk_X0_placeOf_52 hK hR hrec_10 hk0 hF
def F_X0_placeOf (N : Nat) (m : Mem) (a0 : Nat) (x1 : Int32) : Option (Int32 × Mem) :=
  bnd (m a0 2) fun y1 =>
  L_X0_placeOf_10 N N m a0 x1 (0 : Int32) y1 (0 : Int32)
set_option maxRecDepth 100000 in
set_option maxHeartbeats 4000000 in
theorem tr_X0_placeOf {N : Nat} {m m' : Mem} {r : Int32} {a0 : Nat} {x1 : Int32} (hk0 : knd a0 = 0) (hF : F_X0_placeOf N m a0 x1 = some (r, m')) : Tr yX0_placeOf wsX0_placeOf 0 0 [q_r a0, q_i x1] m (some r) m' := by
  refine tr_of (bytes := cX0_placeOf) (maxL := 6) (ret := (some .int)) (by decide) rfl (Nat.le_of_ble_eq_true rfl) (fun K hK hR => ?_)
  have hK : KOK K cX0_placeOf 6 RX0 wsX0_placeOf 0 0 0 := hK
  show AW K 0 0 [(0, q_r a0), (1, q_i x1)] [] m
  unfold F_X0_placeOf at hF
  refine aw_iconst hK (0) rfl dX0_placeOf_0 ?_
  refine aw_istore_n hK [(2, q_i (0 : Int32)), (0, q_r a0), (1, q_i x1)] (by decide) rfl dX0_placeOf_1 ?_
  refine aw_aload_n hK 1 rfl dX0_placeOf_2 ?_
  refine gf_0_2 hK hk0 (List.mem_of_getElem? (i := 1) rfl) dX0_placeOf_3 ?_
  obtain ⟨y1, hy1, hF⟩ := bnd_some hF
  refine aw_nm hy1 ?_
  refine aw_istore_n hK [(3, q_i y1), (2, q_i (0 : Int32)), (0, q_r a0), (1, q_i x1)] (by decide) rfl dX0_placeOf_6 ?_
  refine aw_iconst hK (0) rfl dX0_placeOf_7 ?_
  refine aw_istore hK [(4, q_i (0 : Int32)), (3, q_i y1), (2, q_i (0 : Int32)), (0, q_r a0), (1, q_i x1)] (by decide) rfl dX0_placeOf_8 ?_
  refine aw_sub [3, 4, 2, 1, 0] (lv' := [(0, q_r a0), (1, q_i x1), (2, q_i (0 : Int32)), (3, q_i y1), (4, q_i (0 : Int32))]) rfl ?_
  exact lp_X0_placeOf_10 hK hR _ hk0 hF
def B_X0_put_42 (N : Nat) (m : Mem) (a0 : Nat) (x1 : Int32) (x2 : Int32) (x3 : Int32) : Option (Int32 × Mem) :=
  if (m a0 2) < (160 : Int32) then (
    gd (cpok x3 (x3 + (1 : Int32)) ((m a0 2) - x3) (alen (a0 + 1)) (alen (a0 + 1))) <|
    bnd (mrw m (a0 + 1) (va_cpy (m (a0 + 1)) (m (a0 + 1)) (ix x3) (ix (x3 + (1 : Int32))) (ix ((m a0 2) - x3)))) fun m9 =>
    gd (cpok x3 (x3 + (1 : Int32)) ((m9 a0 2) - x3) (alen (a0 + 2)) (alen (a0 + 2))) <|
    bnd (mrw m9 (a0 + 2) (va_cpy (m9 (a0 + 2)) (m9 (a0 + 2)) (ix x3) (ix (x3 + (1 : Int32))) (ix ((m9 a0 2) - x3)))) fun m11 =>
    gd (inb x3 (alen (a0 + 1))) <|
    bnd (mup m11 (a0 + 1) (ix x3) x1) fun m13 =>
    gd (inb x3 (alen (a0 + 2))) <|
    bnd (mup m13 (a0 + 2) (ix x3) x2) fun m15 =>
    bnd (mup m15 a0 2 ((m15 a0 2) + (1 : Int32))) fun m16 =>
    some ((1 : Int32), m16)
  ) else (
    some ((0 : Int32), m)
  )
set_option maxRecDepth 100000 in
set_option maxHeartbeats 4000000 in
theorem bk_X0_put_42 {N : Nat} {K : KT} {m' : Mem} {r : Int32} (hK : KOK K cX0_put 4 RX0 wsX0_put 1 0 26) (hR : KRet K (some .boolean) (some r) m') {m : Mem} {a0 : Nat} {x1 : Int32} {x2 : Int32} {x3 : Int32} (hk0 : knd a0 = 0) (hF : B_X0_put_42 N m a0 x1 x2 x3 = some (r, m')) : AW K 0 42 [(0, q_r a0), (1, q_i x1), (2, q_i x2), (3, q_i x3)] [] m := by
  unfold B_X0_put_42 at hF
  refine aw_aload_n hK 0 rfl dX0_put_42 ?_
  refine gf_0_2 hK hk0 (List.mem_of_getElem? (i := 1) rfl) dX0_put_43 ?_
  refine aw_sipush hK (160) rfl dX0_put_46 ?_
  refine aw_icmp_lt hK 54 rfl dX0_put_49 (fun hc => ?_) (fun hc => ?_)
  · have hF := if_t hF hc
    refine aw_aload_n hK 0 rfl dX0_put_54 ?_
    refine gf_0_0 hK hk0 (a0 + 1) rfl (List.mem_of_getElem? (i := 2) rfl) dX0_put_55 ?_
    refine aw_iload_n hK 3 rfl dX0_put_58 ?_
    refine aw_aload_n hK 0 rfl dX0_put_59 ?_
    refine gf_0_0 hK hk0 (a0 + 1) rfl (List.mem_of_getElem? (i := 2) rfl) dX0_put_60 ?_
    refine aw_iload_n hK 3 rfl dX0_put_63 ?_
    refine aw_iconst hK (1) rfl dX0_put_64 ?_
    refine aw_iadd hK dX0_put_65 ?_
    refine aw_aload_n hK 0 rfl dX0_put_66 ?_
    refine gf_0_2 hK hk0 (List.mem_of_getElem? (i := 1) rfl) dX0_put_67 ?_
    refine aw_iload_n hK 3 rfl dX0_put_70 ?_
    refine aw_isub hK dX0_put_71 ?_
    obtain ⟨g8, hF⟩ := gd_some hF
    refine aw_copy hK (List.mem_of_getElem? (i := 8) rfl) (List.mem_of_getElem? (i := 9) rfl) (List.mem_of_getElem? (i := 10) rfl) (List.mem_of_getElem? (i := 11) rfl) (kA1 hk0) (kA1 hk0) g8 ⟨by decide, by decide⟩ (Nat.le_of_ble_eq_true rfl) dX0_put_72 ?_
    obtain ⟨m9, hm9, hF⟩ := bnd_some hF
    refine aw_mm hm9 ?_
    refine aw_aload_n hK 0 rfl dX0_put_75 ?_
    refine gf_0_1 hK hk0 (a0 + 2) rfl (List.mem_of_getElem? (i := 3) rfl) dX0_put_76 ?_
    refine aw_iload_n hK 3 rfl dX0_put_79 ?_
    refine aw_aload_n hK 0 rfl dX0_put_80 ?_
    refine gf_0_1 hK hk0 (a0 + 2) rfl (List.mem_of_getElem? (i := 3) rfl) dX0_put_81 ?_
    refine aw_iload_n hK 3 rfl dX0_put_84 ?_
    refine aw_iconst hK (1) rfl dX0_put_85 ?_
    refine aw_iadd hK dX0_put_86 ?_
    refine aw_aload_n hK 0 rfl dX0_put_87 ?_
    refine gf_0_2 hK hk0 (List.mem_of_getElem? (i := 1) rfl) dX0_put_88 ?_
    refine aw_iload_n hK 3 rfl dX0_put_91 ?_
    refine aw_isub hK dX0_put_92 ?_
    obtain ⟨g10, hF⟩ := gd_some hF
    refine aw_copy hK (List.mem_of_getElem? (i := 8) rfl) (List.mem_of_getElem? (i := 9) rfl) (List.mem_of_getElem? (i := 10) rfl) (List.mem_of_getElem? (i := 11) rfl) (kA2 hk0) (kA2 hk0) g10 ⟨by decide, by decide⟩ (Nat.le_of_ble_eq_true rfl) dX0_put_93 ?_
    obtain ⟨m11, hm11, hF⟩ := bnd_some hF
    refine aw_mm hm11 ?_
    refine aw_aload_n hK 0 rfl dX0_put_96 ?_
    refine gf_0_0 hK hk0 (a0 + 1) rfl (List.mem_of_getElem? (i := 2) rfl) dX0_put_97 ?_
    refine aw_iload_n hK 3 rfl dX0_put_100 ?_
    refine aw_iload_n hK 1 rfl dX0_put_101 ?_
    obtain ⟨g12, hF⟩ := gd_some hF
    refine aw_iast hK (kA1 hk0) g12 dX0_put_102 ?_
    obtain ⟨m13, hm13, hF⟩ := bnd_some hF
    refine aw_mm hm13 ?_
    refine aw_aload_n hK 0 rfl dX0_put_103 ?_
    refine gf_0_1 hK hk0 (a0 + 2) rfl (List.mem_of_getElem? (i := 3) rfl) dX0_put_104 ?_
    refine aw_iload_n hK 3 rfl dX0_put_107 ?_
    refine aw_iload_n hK 2 rfl dX0_put_108 ?_
    obtain ⟨g14, hF⟩ := gd_some hF
    refine aw_iast hK (kA2 hk0) g14 dX0_put_109 ?_
    obtain ⟨m15, hm15, hF⟩ := bnd_some hF
    refine aw_mm hm15 ?_
    refine aw_aload_n hK 0 rfl dX0_put_110 ?_
    refine aw_dup hK rfl dX0_put_111 ?_
    refine gf_0_2 hK hk0 (List.mem_of_getElem? (i := 1) rfl) dX0_put_112 ?_
    refine aw_iconst hK (1) rfl dX0_put_115 ?_
    refine aw_iadd hK dX0_put_116 ?_
    refine pf_0_2 hK hk0 (List.mem_of_getElem? (i := 1) rfl) dX0_put_117 ?_
    obtain ⟨m16, hm16, hF⟩ := bnd_some hF
    refine aw_mm hm16 ?_
    refine aw_iconst hK (1) rfl dX0_put_120 ?_
    obtain ⟨rfl, rfl⟩ := so_inj hF
    exact aw_iret hK hR rfl dX0_put_121
  · have hF := if_f hF hc
    refine aw_iconst hK (0) rfl dX0_put_52 ?_
    obtain ⟨rfl, rfl⟩ := so_inj hF
    exact aw_iret hK hR rfl dX0_put_53
def F_X0_put (N : Nat) (m : Mem) (a0 : Nat) (x1 : Int32) (x2 : Int32) : Option (Int32 × Mem) :=
  cal (F_X0_placeOf N m a0 x1) fun r3 m2 =>
  if (m2 a0 2) ≤ r3 then (
    B_X0_put_42 N m2 a0 x1 x2 r3
  ) else (
    gd (inb r3 (alen (a0 + 1))) <|
    if (m2 (a0 + 1) (ix r3)) = x1 then (
      gd (inb r3 (alen (a0 + 2))) <|
      gd (inb r3 (alen (a0 + 2))) <|
      bnd (mup m2 (a0 + 2) (ix r3) (if x2 < (m2 (a0 + 2) (ix r3)) then x2 else (m2 (a0 + 2) (ix r3)))) fun m7 =>
      some ((1 : Int32), m7)
    ) else (
      B_X0_put_42 N m2 a0 x1 x2 r3
    )
  )
set_option maxRecDepth 100000 in
set_option maxHeartbeats 4000000 in
theorem tr_X0_put {N : Nat} {m m' : Mem} {r : Int32} {a0 : Nat} {x1 : Int32} {x2 : Int32} (hk0 : knd a0 = 0) (hF : F_X0_put N m a0 x1 x2 = some (r, m')) : Tr yX0_put wsX0_put 1 26 [q_r a0, q_i x1, q_i x2] m (some r) m' := by
  refine tr_of (bytes := cX0_put) (maxL := 4) (ret := (some .boolean)) (by decide) rfl (Nat.le_of_ble_eq_true rfl) (fun K hK hR => ?_)
  have hK : KOK K cX0_put 4 RX0 wsX0_put 1 0 26 := hK
  show AW K 0 0 [(0, q_r a0), (1, q_i x1), (2, q_i x2)] [] m
  unfold F_X0_put at hF
  refine aw_aload_n hK 0 rfl dX0_put_0 ?_
  refine aw_iload_n hK 1 rfl dX0_put_1 ?_
  obtain ⟨r3, m2, h1, hF⟩ := cal_some hF
  refine aw_cv hK 0 (as := [q_i x1]) (tr_X0_placeOf hk0 h1) gX0_put_X0_placeOf rfl rfl hk0 (by decide) (na := 1) (by decide +kernel) rfl ⟨by decide, by decide⟩ (Nat.zero_le _) (Nat.le_of_ble_eq_true rfl) dX0_put_2 ?_
  refine aw_istore_n hK [(3, q_i r3), (0, q_r a0), (1, q_i x1), (2, q_i x2)] (by decide) rfl dX0_put_5 ?_
  refine aw_iload_n hK 0 rfl dX0_put_6 ?_
  refine aw_aload_n hK 1 rfl dX0_put_7 ?_
  refine gf_0_2 hK hk0 (List.mem_of_getElem? (i := 1) rfl) dX0_put_8 ?_
  refine aw_icmp_ge hK 42 rfl dX0_put_11 (fun hc => ?_) (fun hc => ?_)
  · have hF := if_t hF hc
    refine aw_sub [1, 2, 3, 0] (lv' := [(0, q_r a0), (1, q_i x1), (2, q_i x2), (3, q_i r3)]) rfl ?_
    exact bk_X0_put_42 hK hR hk0 hF
  · have hF := if_f hF hc
    refine aw_aload_n hK 1 rfl dX0_put_14 ?_
    refine gf_0_0 hK hk0 (a0 + 1) rfl (List.mem_of_getElem? (i := 2) rfl) dX0_put_15 ?_
    refine aw_iload_n hK 0 rfl dX0_put_18 ?_
    obtain ⟨g4, hF⟩ := gd_some hF
    refine aw_iald hK (kA1 hk0) g4 dX0_put_19 ?_
    refine aw_iload_n hK 2 rfl dX0_put_20 ?_
    refine aw_icmp_ne hK 42 rfl dX0_put_21 (fun hc => ?_) (fun hc => ?_)
    · have hF := if_f hF hc
      refine aw_sub [1, 2, 3, 0] (lv' := [(0, q_r a0), (1, q_i x1), (2, q_i x2), (3, q_i r3)]) rfl ?_
      exact bk_X0_put_42 hK hR hk0 hF
    · have hF := if_t hF hc
      refine aw_aload_n hK 1 rfl dX0_put_24 ?_
      refine gf_0_1 hK hk0 (a0 + 2) rfl (List.mem_of_getElem? (i := 3) rfl) dX0_put_25 ?_
      refine aw_iload_n hK 0 rfl dX0_put_28 ?_
      refine aw_aload_n hK 1 rfl dX0_put_29 ?_
      refine gf_0_1 hK hk0 (a0 + 2) rfl (List.mem_of_getElem? (i := 3) rfl) dX0_put_30 ?_
      refine aw_iload_n hK 0 rfl dX0_put_33 ?_
      obtain ⟨g5, hF⟩ := gd_some hF
      refine aw_iald hK (kA2 hk0) g5 dX0_put_34 ?_
      refine aw_iload_n hK 3 rfl dX0_put_35 ?_
      refine aw_mmin hK (List.mem_of_getElem? (i := 4) rfl) (List.mem_of_getElem? (i := 5) rfl) (List.mem_of_getElem? (i := 6) rfl) (List.mem_of_getElem? (i := 7) rfl) ⟨by decide, by decide⟩ (Nat.zero_le _) (Nat.le_of_ble_eq_true rfl) dX0_put_36 ?_
      obtain ⟨g6, hF⟩ := gd_some hF
      refine aw_iast hK (kA2 hk0) g6 dX0_put_39 ?_
      obtain ⟨m7, hm7, hF⟩ := bnd_some hF
      refine aw_mm hm7 ?_
      refine aw_iconst hK (1) rfl dX0_put_40 ?_
      obtain ⟨rfl, rfl⟩ := so_inj hF
      exact aw_iret hK hR rfl dX0_put_41
def B_X1_gatherUseful_76 (N : Nat) (rec_10 : Mem → Int32 → Option (Int32 × Mem)) (m : Mem) (x1 : Int32) : Option (Int32 × Mem) :=
  bnd (x1 + (1 : Int32)) fun y11 =>
  rec_10 m y11
set_option maxRecDepth 100000 in
set_option maxHeartbeats 4000000 in
theorem bk_X1_gatherUseful_76 {N : Nat} {K : KT} {m' : Mem} {rec_10 : Mem → Int32 → Option (Int32 × Mem)} {r : Int32} (hK : KOK K cX1_gatherUseful 2 RX1 wsX1_gatherUseful 2 0 49) (hR : KRet K (some .boolean) (some r) m') (hrec_10 : ∀ {m : Mem} {x1 : Int32}, rec_10 m x1 = some (r, m') → AW K 0 10 [(0, q_r 3), (1, q_i x1)] [] m) {m : Mem} {x1 : Int32} (hF : B_X1_gatherUseful_76 N rec_10 m x1 = some (r, m')) : AW K 0 76 [(0, q_r 3), (1, q_i x1)] [] m := by
  unfold B_X1_gatherUseful_76 at hF
  obtain ⟨y11, hy11, hF⟩ := bnd_some hF
  refine aw_iinc hK (cz := 1) 1 [(1, q_i y11), (0, q_r 3)] (by decide) rfl rfl hy11 rfl dX1_gatherUseful_76 ?_
  refine aw_goto hK 10 rfl dX1_gatherUseful_79 ?_
  refine aw_sub [1, 0] (lv' := [(0, q_r 3), (1, q_i y11)]) rfl ?_
  exact hrec_10 hF
def S_X1_gatherUseful_10 (N : Nat) (rec_10 : Mem → Int32 → Option (Int32 × Mem)) (m : Mem) (x1 : Int32) : Option (Int32 × Mem) :=
  if (m 3 5) ≤ x1 then (
    some ((1 : Int32), m)
  ) else (
    gd (inb x1 (alen 4)) <|
    gd (inb (P_X7_fromOf (m 4 (ix x1))) (alen 11)) <|
    if (m 11 (ix (P_X7_fromOf (m 4 (ix x1))))) = (0 : Int32) then (
      B_X1_gatherUseful_76 N rec_10 m x1
    ) else (
      gd (inb x1 (alen 4)) <|
      gd (inb (P_X7_toOf (m 4 (ix x1))) (alen 11)) <|
      if (m 11 (ix (P_X7_toOf (m 4 (ix x1))))) = (0 : Int32) then (
        B_X1_gatherUseful_76 N rec_10 m x1
      ) else (
        gd (inb x1 (alen 4)) <|
        gd (inb x1 (alen 5)) <|
        cal (F_X0_put N m 13 (m 4 (ix x1)) (m 5 (ix x1))) fun r10 m9 =>
        if r10 = (0 : Int32) then (
          some ((0 : Int32), m9)
        ) else (
          B_X1_gatherUseful_76 N rec_10 m9 x1
        )
      )
    )
  )
def L_X1_gatherUseful_10 (N : Nat) : Nat → Mem → Int32 → Option (Int32 × Mem)
  | 0 => fun _ _ => none
  | f + 1 => S_X1_gatherUseful_10 N (L_X1_gatherUseful_10 N f)
set_option maxRecDepth 100000 in
set_option maxHeartbeats 4000000 in
theorem lp_X1_gatherUseful_10 {N : Nat} {K : KT} {m' : Mem} {r : Int32} (hK : KOK K cX1_gatherUseful 2 RX1 wsX1_gatherUseful 2 0 49) (hR : KRet K (some .boolean) (some r) m') : ∀ (f : Nat) {m : Mem} {x1 : Int32}, L_X1_gatherUseful_10 N f m x1 = some (r, m') → AW K 0 10 [(0, q_r 3), (1, q_i x1)] [] m := by
  intro f
  induction f with
  | zero => intro m x1 hF; cases hF
  | succ f hrec_10 =>
    intro m x1 hF
    have hF : S_X1_gatherUseful_10 N (L_X1_gatherUseful_10 N f) m x1 = some (r, m') := hF
    unfold S_X1_gatherUseful_10 at hF
    refine aw_iload_n hK 1 rfl dX1_gatherUseful_10 ?_
    refine aw_aload_n hK 0 rfl dX1_gatherUseful_11 ?_
    refine gf_1_5 hK rfl (List.mem_of_getElem? (i := 3) rfl) dX1_gatherUseful_12 ?_
    refine aw_icmp_ge hK 82 rfl dX1_gatherUseful_15 (fun hc => ?_) (fun hc => ?_)
    · have hF := if_t hF hc
      refine aw_iconst hK (1) rfl dX1_gatherUseful_82 ?_
      obtain ⟨rfl, rfl⟩ := so_inj hF
      exact aw_iret hK hR rfl dX1_gatherUseful_83
    · have hF := if_f hF hc
      refine aw_aload_n hK 0 rfl dX1_gatherUseful_18 ?_
      refine gf_1_10 hK rfl (11) rfl (List.mem_of_getElem? (i := 4) rfl) dX1_gatherUseful_19 ?_
      refine aw_aload_n hK 0 rfl dX1_gatherUseful_22 ?_
      refine gf_1_0 hK rfl (4) rfl (List.mem_of_getElem? (i := 5) rfl) dX1_gatherUseful_23 ?_
      refine aw_iload_n hK 1 rfl dX1_gatherUseful_26 ?_
      obtain ⟨g2, hF⟩ := gd_some hF
      refine aw_iald hK rfl g2 dX1_gatherUseful_27 ?_
      refine aw_csN hK (as := [q_i (m 4 (ix x1))]) (host := "AffixWorks") (trp_X7_fromOf (m 4 (ix x1)) _) gX1_gatherUseful_X7_fromOf_n74 rfl (List.mem_of_getElem? (i := 8) rfl) (List.mem_of_getElem? (i := 8) rfl) (List.mem_of_getElem? (i := 7) rfl) (na := 1) (by decide +kernel) rfl ⟨by decide, by decide⟩ (Nat.zero_le _) (Nat.le_of_ble_eq_true rfl) dX1_gatherUseful_28 ?_
      obtain ⟨g3, hF⟩ := gd_some hF
      refine aw_zald hK rfl g3 dX1_gatherUseful_31 ?_
      refine aw_if_eq hK 76 rfl dX1_gatherUseful_32 (fun hc => ?_) (fun hc => ?_)
      · have hF := if_t hF hc
        refine aw_sub [0, 1] (lv' := [(0, q_r 3), (1, q_i x1)]) rfl ?_
        exact bk_X1_gatherUseful_76 hK hR hrec_10 hF
      · have hF := if_f hF hc
        refine aw_aload_n hK 0 rfl dX1_gatherUseful_35 ?_
        refine gf_1_10 hK rfl (11) rfl (List.mem_of_getElem? (i := 4) rfl) dX1_gatherUseful_36 ?_
        refine aw_aload_n hK 0 rfl dX1_gatherUseful_39 ?_
        refine gf_1_0 hK rfl (4) rfl (List.mem_of_getElem? (i := 5) rfl) dX1_gatherUseful_40 ?_
        refine aw_iload_n hK 1 rfl dX1_gatherUseful_43 ?_
        obtain ⟨g4, hF⟩ := gd_some hF
        refine aw_iald hK rfl g4 dX1_gatherUseful_44 ?_
        refine aw_csN hK (as := [q_i (m 4 (ix x1))]) (host := "AffixWorks") (trp_X7_toOf (m 4 (ix x1)) _) gX1_gatherUseful_X7_toOf_n85 rfl (List.mem_of_getElem? (i := 11) rfl) (List.mem_of_getElem? (i := 8) rfl) (List.mem_of_getElem? (i := 10) rfl) (na := 1) (by decide +kernel) rfl ⟨by decide, by decide⟩ (Nat.zero_le _) (Nat.le_of_ble_eq_true rfl) dX1_gatherUseful_45 ?_
        obtain ⟨g5, hF⟩ := gd_some hF
        refine aw_zald hK rfl g5 dX1_gatherUseful_48 ?_
        refine aw_if_eq hK 76 rfl dX1_gatherUseful_49 (fun hc => ?_) (fun hc => ?_)
        · have hF := if_t hF hc
          refine aw_sub [0, 1] (lv' := [(0, q_r 3), (1, q_i x1)]) rfl ?_
          exact bk_X1_gatherUseful_76 hK hR hrec_10 hF
        · have hF := if_f hF hc
          refine aw_aload_n hK 0 rfl dX1_gatherUseful_52 ?_
          refine gf_1_12 hK rfl (13) rfl (List.mem_of_getElem? (i := 1) rfl) dX1_gatherUseful_53 ?_
          refine aw_aload_n hK 0 rfl dX1_gatherUseful_56 ?_
          refine gf_1_0 hK rfl (4) rfl (List.mem_of_getElem? (i := 5) rfl) dX1_gatherUseful_57 ?_
          refine aw_iload_n hK 1 rfl dX1_gatherUseful_60 ?_
          obtain ⟨g6, hF⟩ := gd_some hF
          refine aw_iald hK rfl g6 dX1_gatherUseful_61 ?_
          refine aw_aload_n hK 0 rfl dX1_gatherUseful_62 ?_
          refine gf_1_1 hK rfl (5) rfl (List.mem_of_getElem? (i := 6) rfl) dX1_gatherUseful_63 ?_
          refine aw_iload_n hK 1 rfl dX1_gatherUseful_66 ?_
          obtain ⟨g7, hF⟩ := gd_some hF
          refine aw_iald hK rfl g7 dX1_gatherUseful_67 ?_
          obtain ⟨r10, m9, h8, hF⟩ := cal_some hF
          refine aw_cv hK 0 (as := [q_i (m 4 (ix x1)), q_i (m 5 (ix x1))]) (tr_X0_put rfl h8) gX1_gatherUseful_X0_put rfl rfl rfl (by decide) (na := 2) (by decide +kernel) rfl ⟨by decide, by decide⟩ (Nat.zero_le _) (Nat.le_of_ble_eq_true rfl) dX1_gatherUseful_68 ?_
          refine aw_if_ne hK 76 rfl dX1_gatherUseful_71 (fun hc => ?_) (fun hc => ?_)
          · have hF := if_f hF hc
            refine aw_sub [0, 1] (lv' := [(0, q_r 3), (1, q_i x1)]) rfl ?_
            exact bk_X1_gatherUseful_76 hK hR hrec_10 hF
          · have hF := if_t hF hc
            refine aw_iconst hK (0) rfl dX1_gatherUseful_74 ?_
            obtain ⟨rfl, rfl⟩ := so_inj hF
            exact aw_iret hK hR rfl dX1_gatherUseful_75
def F_X1_gatherUseful (N : Nat) (m : Mem) : Option (Int32 × Mem) :=
  bnd (mup m 13 2 (0 : Int32)) fun m1 =>
  L_X1_gatherUseful_10 N N m1 (0 : Int32)
set_option maxRecDepth 100000 in
set_option maxHeartbeats 4000000 in
theorem tr_X1_gatherUseful {N : Nat} {m m' : Mem} {r : Int32} (hF : F_X1_gatherUseful N m = some (r, m')) : Tr yX1_gatherUseful wsX1_gatherUseful 2 49 [q_r 3] m (some r) m' := by
  refine tr_of (bytes := cX1_gatherUseful) (maxL := 2) (ret := (some .boolean)) (by decide) rfl (Nat.le_of_ble_eq_true rfl) (fun K hK hR => ?_)
  have hK : KOK K cX1_gatherUseful 2 RX1 wsX1_gatherUseful 2 0 49 := hK
  show AW K 0 0 [(0, q_r 3)] [] m
  unfold F_X1_gatherUseful at hF
  refine aw_aload_n hK 0 rfl dX1_gatherUseful_0 ?_
  refine gf_1_12 hK rfl (13) rfl (List.mem_of_getElem? (i := 1) rfl) dX1_gatherUseful_1 ?_
  refine aw_iconst hK (0) rfl dX1_gatherUseful_4 ?_
  refine pf_0_2 hK rfl (List.mem_of_getElem? (i := 2) rfl) dX1_gatherUseful_5 ?_
  obtain ⟨m1, hm1, hF⟩ := bnd_some hF
  refine aw_mm hm1 ?_
  refine aw_iconst hK (0) rfl dX1_gatherUseful_8 ?_
  refine aw_istore_n hK [(1, q_i (0 : Int32)), (0, q_r 3)] (by decide) rfl dX1_gatherUseful_9 ?_
  refine aw_sub [1, 0] (lv' := [(0, q_r 3), (1, q_i (0 : Int32))]) rfl ?_
  exact lp_X1_gatherUseful_10 hK hR _ hF
def F_X0_firstPlaceFrom (N : Nat) (m : Mem) (a0 : Nat) (x1 : Int32) : Option (Int32 × Mem) :=
  cal (F_X0_placeOf N m a0 (P_X7_packedArc x1 (0 : Int32) (0 : Int32) (0 : Int32))) fun r3 m2 =>
  some (r3, m2)
set_option maxRecDepth 100000 in
set_option maxHeartbeats 4000000 in
theorem tr_X0_firstPlaceFrom {N : Nat} {m m' : Mem} {r : Int32} {a0 : Nat} {x1 : Int32} (hk0 : knd a0 = 0) (hF : F_X0_firstPlaceFrom N m a0 x1 = some (r, m')) : Tr yX0_firstPlaceFrom wsX0_firstPlaceFrom 1 25 [q_r a0, q_i x1] m (some r) m' := by
  refine tr_of (bytes := cX0_firstPlaceFrom) (maxL := 2) (ret := (some .int)) (by decide) rfl (Nat.le_of_ble_eq_true rfl) (fun K hK hR => ?_)
  have hK : KOK K cX0_firstPlaceFrom 2 RX0 wsX0_firstPlaceFrom 1 0 25 := hK
  show AW K 0 0 [(0, q_r a0), (1, q_i x1)] [] m
  unfold F_X0_firstPlaceFrom at hF
  refine aw_aload_n hK 0 rfl dX0_firstPlaceFrom_0 ?_
  refine aw_iload_n hK 1 rfl dX0_firstPlaceFrom_1 ?_
  refine aw_iconst hK (0) rfl dX0_firstPlaceFrom_2 ?_
  refine aw_iconst hK (0) rfl dX0_firstPlaceFrom_3 ?_
  refine aw_iconst hK (0) rfl dX0_firstPlaceFrom_4 ?_
  refine aw_csN hK (as := [q_i x1, q_i (0 : Int32), q_i (0 : Int32), q_i (0 : Int32)]) (host := "AffixWorks") (trp_X7_packedArc x1 (0 : Int32) (0 : Int32) (0 : Int32) _) gX0_firstPlaceFrom_X7_packedArc_n38 rfl (List.mem_of_getElem? (i := 5) rfl) (List.mem_of_getElem? (i := 2) rfl) (List.mem_of_getElem? (i := 1) rfl) (na := 4) (by decide +kernel) rfl ⟨by decide, by decide⟩ (Nat.zero_le _) (Nat.le_of_ble_eq_true rfl) dX0_firstPlaceFrom_5 ?_
  obtain ⟨r3, m2, h1, hF⟩ := cal_some hF
  refine aw_cv hK 0 (as := [q_i (P_X7_packedArc x1 (0 : Int32) (0 : Int32) (0 : Int32))]) (tr_X0_placeOf hk0 h1) gX0_firstPlaceFrom_X0_placeOf rfl rfl hk0 (by decide) (na := 1) (by decide +kernel) rfl ⟨by decide, by decide⟩ (Nat.zero_le _) (Nat.le_of_ble_eq_true rfl) dX0_firstPlaceFrom_8 ?_
  obtain ⟨rfl, rfl⟩ := so_inj hF
  exact aw_iret hK hR rfl dX0_firstPlaceFrom_11
