def B_X2_countVotes_56 (N : Nat) (rec_23 : Mem → Int32 → Int32 → Option Mem) (m : Mem) (x1 : Int32) (x2 : Int32) : Option Mem :=
  bnd (x2 + (1 : Int32)) fun y9 =>
  rec_23 m x1 y9
set_option maxRecDepth 100000 in
set_option maxHeartbeats 4000000 in
theorem bk_X2_countVotes_56 {N : Nat} {K : KT} {m' : Mem} {rec_23 : Mem → Int32 → Int32 → Option Mem} (hK : KOK K cX2_countVotes 3 RX2 wsX2_countVotes 0 0 0) (hR : KRet K none none m') (hrec_23 : ∀ {m : Mem} {x1 : Int32} {x2 : Int32}, rec_23 m x1 x2 = some m' → AW K 0 23 [(0, q_r 60), (1, q_i x1), (2, q_i x2)] [] m) {m : Mem} {x1 : Int32} {x2 : Int32} (hF : B_X2_countVotes_56 N rec_23 m x1 x2 = some m') : AW K 0 56 [(0, q_r 60), (1, q_i x1), (2, q_i x2)] [] m := by
  unfold B_X2_countVotes_56 at hF
  obtain ⟨y9, hy9, hF⟩ := bnd_some hF
  refine aw_iinc hK (cz := 1) 2 [(2, q_i y9), (0, q_r 60), (1, q_i x1)] (by decide) rfl rfl hy9 rfl dX2_countVotes_56 ?_
  refine aw_goto hK 23 rfl dX2_countVotes_59 ?_
  refine aw_sub [1, 2, 0] (lv' := [(0, q_r 60), (1, q_i x1), (2, q_i y9)]) rfl ?_
  exact hrec_23 hF
def S_X2_countVotes_23 (N : Nat) (rec_23 : Mem → Int32 → Int32 → Option Mem) (m : Mem) (x1 : Int32) (x2 : Int32) : Option Mem :=
  if (m 60 5) ≤ x2 then (
    some m
  ) else (
    gd (inb x2 (alen 64)) <|
    if (m 64 (ix x2)) = x1 then (
      gd (inb x2 (alen 63)) <|
      gd (inb (m 63 (ix x2)) (alen 65)) <|
      gd (inb (m 63 (ix x2)) (alen 65)) <|
      bnd (mup m 65 (ix (m 63 (ix x2))) ((m 65 (ix (m 63 (ix x2)))) + (1 : Int32))) fun m8 =>
      B_X2_countVotes_56 N rec_23 m8 x1 x2
    ) else (
      B_X2_countVotes_56 N rec_23 m x1 x2
    )
  )
def L_X2_countVotes_23 (N : Nat) : Nat → Mem → Int32 → Int32 → Option Mem
  | 0 => fun _ _ _ => none
  | f + 1 => S_X2_countVotes_23 N (L_X2_countVotes_23 N f)
set_option maxRecDepth 100000 in
set_option maxHeartbeats 4000000 in
theorem lp_X2_countVotes_23 {N : Nat} {K : KT} {m' : Mem} (hK : KOK K cX2_countVotes 3 RX2 wsX2_countVotes 0 0 0) (hR : KRet K none none m') : ∀ (f : Nat) {m : Mem} {x1 : Int32} {x2 : Int32}, L_X2_countVotes_23 N f m x1 x2 = some m' → AW K 0 23 [(0, q_r 60), (1, q_i x1), (2, q_i x2)] [] m := by
  intro f
  induction f with
  | zero => intro m x1 x2 hF; cases hF
  | succ f hrec_23 =>
    intro m x1 x2 hF
    have hF : S_X2_countVotes_23 N (L_X2_countVotes_23 N f) m x1 x2 = some m' := hF
    unfold S_X2_countVotes_23 at hF
    refine aw_iload_n hK 2 rfl dX2_countVotes_23 ?_
    refine aw_aload_n hK 0 rfl dX2_countVotes_24 ?_
    refine gf_2_5 hK rfl (List.mem_of_getElem? (i := 2) rfl) dX2_countVotes_25 ?_
    refine aw_icmp_ge hK 62 rfl dX2_countVotes_28 (fun hc => ?_) (fun hc => ?_)
    · have hF := if_t hF hc
      obtain rfl := Option.some.inj hF
      exact aw_vret hK hR dX2_countVotes_62
    · have hF := if_f hF hc
      refine aw_aload_n hK 0 rfl dX2_countVotes_31 ?_
      refine gf_2_3 hK rfl (64) rfl (List.mem_of_getElem? (i := 3) rfl) dX2_countVotes_32 ?_
      refine aw_iload_n hK 2 rfl dX2_countVotes_35 ?_
      obtain ⟨g4, hF⟩ := gd_some hF
      refine aw_iald hK rfl g4 dX2_countVotes_36 ?_
      refine aw_iload_n hK 1 rfl dX2_countVotes_37 ?_
      refine aw_icmp_ne hK 56 rfl dX2_countVotes_38 (fun hc => ?_) (fun hc => ?_)
      · have hF := if_f hF hc
        refine aw_sub [0, 1, 2] (lv' := [(0, q_r 60), (1, q_i x1), (2, q_i x2)]) rfl ?_
        exact bk_X2_countVotes_56 hK hR hrec_23 hF
      · have hF := if_t hF hc
        refine aw_aload_n hK 0 rfl dX2_countVotes_41 ?_
        refine gf_2_4 hK rfl (65) rfl (List.mem_of_getElem? (i := 1) rfl) dX2_countVotes_42 ?_
        refine aw_aload_n hK 0 rfl dX2_countVotes_45 ?_
        refine gf_2_2 hK rfl (63) rfl (List.mem_of_getElem? (i := 4) rfl) dX2_countVotes_46 ?_
        refine aw_iload_n hK 2 rfl dX2_countVotes_49 ?_
        obtain ⟨g5, hF⟩ := gd_some hF
        refine aw_iald hK rfl g5 dX2_countVotes_50 ?_
        refine aw_dup2 hK rfl rfl dX2_countVotes_51 ?_
        obtain ⟨g6, hF⟩ := gd_some hF
        refine aw_iald hK rfl g6 dX2_countVotes_52 ?_
        refine aw_iconst hK (1) rfl dX2_countVotes_53 ?_
        refine aw_iadd hK dX2_countVotes_54 ?_
        obtain ⟨g7, hF⟩ := gd_some hF
        refine aw_iast hK rfl g7 dX2_countVotes_55 ?_
        obtain ⟨m8, hm8, hF⟩ := bnd_some hF
        refine aw_mm hm8 ?_
        refine aw_sub [0, 1, 2] (lv' := [(0, q_r 60), (1, q_i x1), (2, q_i x2)]) rfl ?_
        exact bk_X2_countVotes_56 hK hR hrec_23 hF
def S_X2_countVotes_2 (N : Nat) (rec_2 : Mem → Int32 → Int32 → Option Mem) (m : Mem) (x1 : Int32) (x2 : Int32) : Option Mem :=
  if (6 : Int32) ≤ x2 then (
    L_X2_countVotes_23 N N m x1 (0 : Int32)
  ) else (
    gd (inb x2 (alen 65)) <|
    bnd (mup m 65 (ix x2) (0 : Int32)) fun m2 =>
    bnd (x2 + (1 : Int32)) fun y3 =>
    rec_2 m2 x1 y3
  )
def L_X2_countVotes_2 (N : Nat) : Nat → Mem → Int32 → Int32 → Option Mem
  | 0 => fun _ _ _ => none
  | f + 1 => S_X2_countVotes_2 N (L_X2_countVotes_2 N f)
set_option maxRecDepth 100000 in
set_option maxHeartbeats 4000000 in
theorem lp_X2_countVotes_2 {N : Nat} {K : KT} {m' : Mem} (hK : KOK K cX2_countVotes 3 RX2 wsX2_countVotes 0 0 0) (hR : KRet K none none m') : ∀ (f : Nat) {m : Mem} {x1 : Int32} {x2 : Int32}, L_X2_countVotes_2 N f m x1 x2 = some m' → AW K 0 2 [(0, q_r 60), (1, q_i x1), (2, q_i x2)] [] m := by
  intro f
  induction f with
  | zero => intro m x1 x2 hF; cases hF
  | succ f hrec_2 =>
    intro m x1 x2 hF
    have hF : S_X2_countVotes_2 N (L_X2_countVotes_2 N f) m x1 x2 = some m' := hF
    unfold S_X2_countVotes_2 at hF
    refine aw_iload_n hK 2 rfl dX2_countVotes_2 ?_
    refine aw_bipush hK (6) rfl dX2_countVotes_3 ?_
    refine aw_icmp_ge hK 21 rfl dX2_countVotes_5 (fun hc => ?_) (fun hc => ?_)
    · have hF := if_t hF hc
      refine aw_iconst hK (0) rfl dX2_countVotes_21 ?_
      refine aw_istore_n hK [(2, q_i (0 : Int32)), (0, q_r 60), (1, q_i x1)] (by decide) rfl dX2_countVotes_22 ?_
      refine aw_sub [1, 2, 0] (lv' := [(0, q_r 60), (1, q_i x1), (2, q_i (0 : Int32))]) rfl ?_
      exact lp_X2_countVotes_23 hK hR _ hF
    · have hF := if_f hF hc
      refine aw_aload_n hK 0 rfl dX2_countVotes_8 ?_
      refine gf_2_4 hK rfl (65) rfl (List.mem_of_getElem? (i := 1) rfl) dX2_countVotes_9 ?_
      refine aw_iload_n hK 2 rfl dX2_countVotes_12 ?_
      refine aw_iconst hK (0) rfl dX2_countVotes_13 ?_
      obtain ⟨g1, hF⟩ := gd_some hF
      refine aw_iast hK rfl g1 dX2_countVotes_14 ?_
      obtain ⟨m2, hm2, hF⟩ := bnd_some hF
      refine aw_mm hm2 ?_
      obtain ⟨y3, hy3, hF⟩ := bnd_some hF
      refine aw_iinc hK (cz := 1) 2 [(2, q_i y3), (0, q_r 60), (1, q_i x1)] (by decide) rfl rfl hy3 rfl dX2_countVotes_15 ?_
      refine aw_goto hK 2 rfl dX2_countVotes_18 ?_
      refine aw_sub [1, 2, 0] (lv' := [(0, q_r 60), (1, q_i x1), (2, q_i y3)]) rfl ?_
      exact hrec_2 hF
def F_X2_countVotes (N : Nat) (m : Mem) (x1 : Int32) : Option Mem :=
  L_X2_countVotes_2 N N m x1 (0 : Int32)
set_option maxRecDepth 100000 in
set_option maxHeartbeats 4000000 in
theorem tr_X2_countVotes {N : Nat} {m m' : Mem} {x1 : Int32} (hF : F_X2_countVotes N m x1 = some m') : Tr yX2_countVotes wsX2_countVotes 0 0 [q_r 60, q_i x1] m none m' := by
  refine tr_of (bytes := cX2_countVotes) (maxL := 3) (ret := none) (by decide) rfl (Nat.le_of_ble_eq_true rfl) (fun K hK hR => ?_)
  have hK : KOK K cX2_countVotes 3 RX2 wsX2_countVotes 0 0 0 := hK
  show AW K 0 0 [(0, q_r 60), (1, q_i x1)] [] m
  unfold F_X2_countVotes at hF
  refine aw_iconst hK (0) rfl dX2_countVotes_0 ?_
  refine aw_istore_n hK [(2, q_i (0 : Int32)), (0, q_r 60), (1, q_i x1)] (by decide) rfl dX2_countVotes_1 ?_
  refine aw_sub [1, 2, 0] (lv' := [(0, q_r 60), (1, q_i x1), (2, q_i (0 : Int32))]) rfl ?_
  exact lp_X2_countVotes_2 hK hR _ hF
def B_X2_mostVoted_27 (N : Nat) (rec_4 : Mem → Int32 → Int32 → Option (Int32 × Mem)) (m : Mem) (x1 : Int32) (x2 : Int32) : Option (Int32 × Mem) :=
  bnd (x2 + (1 : Int32)) fun y3 =>
  rec_4 m x1 y3
set_option maxRecDepth 100000 in
set_option maxHeartbeats 4000000 in
theorem bk_X2_mostVoted_27 {N : Nat} {K : KT} {m' : Mem} {rec_4 : Mem → Int32 → Int32 → Option (Int32 × Mem)} {r : Int32} (hK : KOK K cX2_mostVoted 3 RX2 wsX2_mostVoted 0 0 0) (hR : KRet K (some .int) (some r) m') (hrec_4 : ∀ {m : Mem} {x1 : Int32} {x2 : Int32}, rec_4 m x1 x2 = some (r, m') → AW K 0 4 [(0, q_r 60), (1, q_i x1), (2, q_i x2)] [] m) {m : Mem} {x1 : Int32} {x2 : Int32} (hF : B_X2_mostVoted_27 N rec_4 m x1 x2 = some (r, m')) : AW K 0 27 [(0, q_r 60), (1, q_i x1), (2, q_i x2)] [] m := by
  unfold B_X2_mostVoted_27 at hF
  obtain ⟨y3, hy3, hF⟩ := bnd_some hF
  refine aw_iinc hK (cz := 1) 2 [(2, q_i y3), (0, q_r 60), (1, q_i x1)] (by decide) rfl rfl hy3 rfl dX2_mostVoted_27 ?_
  refine aw_goto hK 4 rfl dX2_mostVoted_30 ?_
  refine aw_sub [1, 2, 0] (lv' := [(0, q_r 60), (1, q_i x1), (2, q_i y3)]) rfl ?_
  exact hrec_4 hF
def S_X2_mostVoted_4 (N : Nat) (rec_4 : Mem → Int32 → Int32 → Option (Int32 × Mem)) (m : Mem) (x1 : Int32) (x2 : Int32) : Option (Int32 × Mem) :=
  if (6 : Int32) ≤ x2 then (
    some (x1, m)
  ) else (
    gd (inb x2 (alen 65)) <|
    gd (inb x1 (alen 65)) <|
    if (m 65 (ix x2)) ≤ (m 65 (ix x1)) then (
      B_X2_mostVoted_27 N rec_4 m x1 x2
    ) else (
      B_X2_mostVoted_27 N rec_4 m x2 x2
    )
  )
def L_X2_mostVoted_4 (N : Nat) : Nat → Mem → Int32 → Int32 → Option (Int32 × Mem)
  | 0 => fun _ _ _ => none
  | f + 1 => S_X2_mostVoted_4 N (L_X2_mostVoted_4 N f)
set_option maxRecDepth 100000 in
set_option maxHeartbeats 4000000 in
theorem lp_X2_mostVoted_4 {N : Nat} {K : KT} {m' : Mem} {r : Int32} (hK : KOK K cX2_mostVoted 3 RX2 wsX2_mostVoted 0 0 0) (hR : KRet K (some .int) (some r) m') : ∀ (f : Nat) {m : Mem} {x1 : Int32} {x2 : Int32}, L_X2_mostVoted_4 N f m x1 x2 = some (r, m') → AW K 0 4 [(0, q_r 60), (1, q_i x1), (2, q_i x2)] [] m := by
  intro f
  induction f with
  | zero => intro m x1 x2 hF; cases hF
  | succ f hrec_4 =>
    intro m x1 x2 hF
    have hF : S_X2_mostVoted_4 N (L_X2_mostVoted_4 N f) m x1 x2 = some (r, m') := hF
    unfold S_X2_mostVoted_4 at hF
    refine aw_iload_n hK 2 rfl dX2_mostVoted_4 ?_
    refine aw_bipush hK (6) rfl dX2_mostVoted_5 ?_
    refine aw_icmp_ge hK 33 rfl dX2_mostVoted_7 (fun hc => ?_) (fun hc => ?_)
    · have hF := if_t hF hc
      refine aw_iload_n hK 1 rfl dX2_mostVoted_33 ?_
      obtain ⟨rfl, rfl⟩ := so_inj hF
      exact aw_iret hK hR rfl dX2_mostVoted_34
    · have hF := if_f hF hc
      refine aw_aload_n hK 0 rfl dX2_mostVoted_10 ?_
      refine gf_2_4 hK rfl (65) rfl (List.mem_of_getElem? (i := 1) rfl) dX2_mostVoted_11 ?_
      refine aw_iload_n hK 2 rfl dX2_mostVoted_14 ?_
      obtain ⟨g1, hF⟩ := gd_some hF
      refine aw_iald hK rfl g1 dX2_mostVoted_15 ?_
      refine aw_aload_n hK 0 rfl dX2_mostVoted_16 ?_
      refine gf_2_4 hK rfl (65) rfl (List.mem_of_getElem? (i := 1) rfl) dX2_mostVoted_17 ?_
      refine aw_iload_n hK 1 rfl dX2_mostVoted_20 ?_
      obtain ⟨g2, hF⟩ := gd_some hF
      refine aw_iald hK rfl g2 dX2_mostVoted_21 ?_
      refine aw_icmp_le hK 27 rfl dX2_mostVoted_22 (fun hc => ?_) (fun hc => ?_)
      · have hF := if_t hF hc
        refine aw_sub [0, 1, 2] (lv' := [(0, q_r 60), (1, q_i x1), (2, q_i x2)]) rfl ?_
        exact bk_X2_mostVoted_27 hK hR hrec_4 hF
      · have hF := if_f hF hc
        refine aw_iload_n hK 2 rfl dX2_mostVoted_25 ?_
        refine aw_istore_n hK [(1, q_i x2), (0, q_r 60), (2, q_i x2)] (by decide) rfl dX2_mostVoted_26 ?_
        refine aw_sub [1, 0, 2] (lv' := [(0, q_r 60), (1, q_i x2), (2, q_i x2)]) rfl ?_
        exact bk_X2_mostVoted_27 hK hR hrec_4 hF
def F_X2_mostVoted (N : Nat) (m : Mem) : Option (Int32 × Mem) :=
  L_X2_mostVoted_4 N N m (0 : Int32) (1 : Int32)
set_option maxRecDepth 100000 in
set_option maxHeartbeats 4000000 in
theorem tr_X2_mostVoted {N : Nat} {m m' : Mem} {r : Int32} (hF : F_X2_mostVoted N m = some (r, m')) : Tr yX2_mostVoted wsX2_mostVoted 0 0 [q_r 60] m (some r) m' := by
  refine tr_of (bytes := cX2_mostVoted) (maxL := 3) (ret := (some .int)) (by decide) rfl (Nat.le_of_ble_eq_true rfl) (fun K hK hR => ?_)
  have hK : KOK K cX2_mostVoted 3 RX2 wsX2_mostVoted 0 0 0 := hK
  show AW K 0 0 [(0, q_r 60)] [] m
  unfold F_X2_mostVoted at hF
  refine aw_iconst hK (0) rfl dX2_mostVoted_0 ?_
  refine aw_istore_n hK [(1, q_i (0 : Int32)), (0, q_r 60)] (by decide) rfl dX2_mostVoted_1 ?_
  refine aw_iconst hK (1) rfl dX2_mostVoted_2 ?_
  refine aw_istore_n hK [(2, q_i (1 : Int32)), (1, q_i (0 : Int32)), (0, q_r 60)] (by decide) rfl dX2_mostVoted_3 ?_
  refine aw_sub [2, 1, 0] (lv' := [(0, q_r 60), (1, q_i (0 : Int32)), (2, q_i (1 : Int32))]) rfl ?_
  exact lp_X2_mostVoted_4 hK hR _ hF
def S_X2_tell_5 (N : Nat) (rec_5 : Mem → Int32 → Int32 → Int32 → Option (Int32 × Mem)) (m : Mem) (x2 : Int32) (x3 : Int32) (x4 : Int32) : Option (Int32 × Mem) :=
  if (m 60 5) ≤ x4 then (
    if x3 = (0 : Int32) then (
      some ((-1 : Int32), m)
    ) else (
      calv (F_X2_countVotes N m x3) fun m2 =>
      cal (F_X2_mostVoted N m2) fun r5 m4 =>
      gd (inb r5 (alen 65)) <|
      some ((((100 : Int32) * x3) + ((10 : Int32) * r5)) + (if (9 : Int32) < (m4 65 (ix r5)) then (9 : Int32) else (m4 65 (ix r5))), m4)
    )
  ) else (
    cal (F_X2_endingOf N m x4 x2) fun r9 m8 =>
    gd (inb x4 (alen 64)) <|
    bnd (mup m8 64 (ix x4) r9) fun m11 =>
    gd (inb x4 (alen 64)) <|
    bnd (if x3 < (m11 64 (ix x4)) then (m11 64 (ix x4)) else x3) fun y13 =>
    bnd (x4 + (1 : Int32)) fun y14 =>
    rec_5 m11 x2 y13 y14
  )
def L_X2_tell_5 (N : Nat) : Nat → Mem → Int32 → Int32 → Int32 → Option (Int32 × Mem)
  | 0 => fun _ _ _ _ => none
  | f + 1 => S_X2_tell_5 N (L_X2_tell_5 N f)
set_option maxRecDepth 100000 in
set_option maxHeartbeats 4000000 in
theorem lp_X2_tell_5 {N : Nat} {K : KT} {m' : Mem} {r : Int32} (hK : KOK K cX2_tell 5 RX2 wsX2_tell 2 0 47) (hR : KRet K (some .int) (some r) m') : ∀ (f : Nat) {m : Mem} {x2 : Int32} {x3 : Int32} {x4 : Int32}, L_X2_tell_5 N f m x2 x3 x4 = some (r, m') → AW K 0 5 [(0, q_r 60), (1, q_r 1), (2, q_i x2), (3, q_i x3), (4, q_i x4)] [] m := by
  intro f
  induction f with
  | zero => intro m x2 x3 x4 hF; cases hF
  | succ f hrec_5 =>
    intro m x2 x3 x4 hF
    have hF : S_X2_tell_5 N (L_X2_tell_5 N f) m x2 x3 x4 = some (r, m') := hF
    unfold S_X2_tell_5 at hF
    refine aw_iload hK 4 rfl dX2_tell_5 ?_
    refine aw_aload_n hK 0 rfl dX2_tell_7 ?_
    refine gf_2_5 hK rfl (List.mem_of_getElem? (i := 1) rfl) dX2_tell_8 ?_
    refine aw_icmp_ge hK 47 rfl dX2_tell_11 (fun hc => ?_) (fun hc => ?_)
    · have hF := if_t hF hc
      refine aw_iload_n hK 3 rfl dX2_tell_47 ?_
      refine aw_if_ne hK 53 rfl dX2_tell_48 (fun hc => ?_) (fun hc => ?_)
      · have hF := if_f hF hc
        refine aw_aload_n hK 0 rfl dX2_tell_53 ?_
        refine aw_iload_n hK 3 rfl dX2_tell_54 ?_
        obtain ⟨m2, h1, hF⟩ := calv_some hF
        refine aw_cv hK 2 (as := [q_i x3]) (tr_X2_countVotes h1) gX2_tell_X2_countVotes rfl rfl rfl (by decide) (na := 1) (by decide +kernel) rfl ⟨by decide, by decide⟩ (Nat.zero_le _) (Nat.le_of_ble_eq_true rfl) dX2_tell_55 ?_
        refine aw_aload_n hK 0 rfl dX2_tell_58 ?_
        obtain ⟨r5, m4, h3, hF⟩ := cal_some hF
        refine aw_cv hK 2 (as := []) (tr_X2_mostVoted h3) gX2_tell_X2_mostVoted rfl rfl rfl (by decide) (na := 0) (by decide +kernel) rfl ⟨by decide, by decide⟩ (Nat.zero_le _) (Nat.le_of_ble_eq_true rfl) dX2_tell_59 ?_
        refine aw_istore hK [(4, q_i r5), (0, q_r 60), (1, q_r 1), (2, q_i x2), (3, q_i x3)] (by decide) rfl dX2_tell_62 ?_
        refine aw_bipush hK (100) rfl dX2_tell_64 ?_
        refine aw_iload_n hK 4 rfl dX2_tell_66 ?_
        refine aw_imul hK dX2_tell_67 ?_
        refine aw_bipush hK (10) rfl dX2_tell_68 ?_
        refine aw_iload hK 0 rfl dX2_tell_70 ?_
        refine aw_imul hK dX2_tell_72 ?_
        refine aw_iadd hK dX2_tell_73 ?_
        refine aw_aload_n hK 1 rfl dX2_tell_74 ?_
        refine gf_2_4 hK rfl (65) rfl (List.mem_of_getElem? (i := 7) rfl) dX2_tell_75 ?_
        refine aw_iload hK 0 rfl dX2_tell_78 ?_
        obtain ⟨g6, hF⟩ := gd_some hF
        refine aw_iald hK rfl g6 dX2_tell_80 ?_
        refine aw_bipush hK (9) rfl dX2_tell_81 ?_
        refine aw_mmin hK (List.mem_of_getElem? (i := 8) rfl) (List.mem_of_getElem? (i := 9) rfl) (List.mem_of_getElem? (i := 5) rfl) (List.mem_of_getElem? (i := 10) rfl) ⟨by decide, by decide⟩ (Nat.zero_le _) (Nat.le_of_ble_eq_true rfl) dX2_tell_83 ?_
        refine aw_iadd hK dX2_tell_86 ?_
        obtain ⟨rfl, rfl⟩ := so_inj hF
        exact aw_iret hK hR rfl dX2_tell_87
      · have hF := if_t hF hc
        refine aw_iconst hK (-1) rfl dX2_tell_51 ?_
        obtain ⟨rfl, rfl⟩ := so_inj hF
        exact aw_iret hK hR rfl dX2_tell_52
    · have hF := if_f hF hc
      refine aw_aload_n hK 0 rfl dX2_tell_14 ?_
      refine gf_2_3 hK rfl (64) rfl (List.mem_of_getElem? (i := 2) rfl) dX2_tell_15 ?_
      refine aw_iload hK 4 rfl dX2_tell_18 ?_
      refine aw_aload_n hK 0 rfl dX2_tell_20 ?_
      refine aw_iload hK 4 rfl dX2_tell_21 ?_
      refine aw_aload_n hK 1 rfl dX2_tell_23 ?_
      refine aw_iload_n hK 2 rfl dX2_tell_24 ?_
      obtain ⟨r9, m8, h7, hF⟩ := cal_some hF
      refine aw_cv hK 2 (as := [q_i x4, q_r 1, q_i x2]) (tr_X2_endingOf h7) gX2_tell_X2_endingOf rfl rfl rfl (by decide) (na := 3) (by decide +kernel) rfl ⟨by decide, by decide⟩ (Nat.zero_le _) (Nat.le_of_ble_eq_true rfl) dX2_tell_25 ?_
      obtain ⟨g10, hF⟩ := gd_some hF
      refine aw_iast hK rfl g10 dX2_tell_28 ?_
      obtain ⟨m11, hm11, hF⟩ := bnd_some hF
      refine aw_mm hm11 ?_
      refine aw_iload_n hK 3 rfl dX2_tell_29 ?_
      refine aw_aload_n hK 0 rfl dX2_tell_30 ?_
      refine gf_2_3 hK rfl (64) rfl (List.mem_of_getElem? (i := 2) rfl) dX2_tell_31 ?_
      refine aw_iload hK 4 rfl dX2_tell_34 ?_
      obtain ⟨g12, hF⟩ := gd_some hF
      refine aw_iald hK rfl g12 dX2_tell_36 ?_
      refine aw_mmax hK (List.mem_of_getElem? (i := 3) rfl) (List.mem_of_getElem? (i := 4) rfl) (List.mem_of_getElem? (i := 5) rfl) (List.mem_of_getElem? (i := 6) rfl) ⟨by decide, by decide⟩ (Nat.zero_le _) (Nat.le_of_ble_eq_true rfl) dX2_tell_37 ?_
      obtain ⟨y13, hy13, hF⟩ := bnd_some hF
      refine aw_nm hy13 ?_
      refine aw_istore_n hK [(3, q_i y13), (0, q_r 60), (1, q_r 1), (2, q_i x2), (4, q_i x4)] (by decide) rfl dX2_tell_40 ?_
      obtain ⟨y14, hy14, hF⟩ := bnd_some hF
      refine aw_iinc hK (cz := 1) 4 [(4, q_i y14), (3, q_i y13), (0, q_r 60), (1, q_r 1), (2, q_i x2)] (by decide) rfl rfl hy14 rfl dX2_tell_41 ?_
      refine aw_goto hK 5 rfl dX2_tell_44 ?_
      refine aw_sub [2, 3, 4, 1, 0] (lv' := [(0, q_r 60), (1, q_r 1), (2, q_i x2), (3, q_i y13), (4, q_i y14)]) rfl ?_
      exact hrec_5 hF
def F_X2_tell (N : Nat) (m : Mem) (x2 : Int32) : Option (Int32 × Mem) :=
  L_X2_tell_5 N N m x2 (0 : Int32) (0 : Int32)
set_option maxRecDepth 100000 in
set_option maxHeartbeats 4000000 in
theorem tr_X2_tell {N : Nat} {m m' : Mem} {r : Int32} {x2 : Int32} (hF : F_X2_tell N m x2 = some (r, m')) : Tr yX2_tell wsX2_tell 2 47 [q_r 60, q_r 1, q_i x2] m (some r) m' := by
  refine tr_of (bytes := cX2_tell) (maxL := 5) (ret := (some .int)) (by decide) rfl (Nat.le_of_ble_eq_true rfl) (fun K hK hR => ?_)
  have hK : KOK K cX2_tell 5 RX2 wsX2_tell 2 0 47 := hK
  show AW K 0 0 [(0, q_r 60), (1, q_r 1), (2, q_i x2)] [] m
  unfold F_X2_tell at hF
  refine aw_iconst hK (0) rfl dX2_tell_0 ?_
  refine aw_istore_n hK [(3, q_i (0 : Int32)), (0, q_r 60), (1, q_r 1), (2, q_i x2)] (by decide) rfl dX2_tell_1 ?_
  refine aw_iconst hK (0) rfl dX2_tell_2 ?_
  refine aw_istore hK [(4, q_i (0 : Int32)), (3, q_i (0 : Int32)), (0, q_r 60), (1, q_r 1), (2, q_i x2)] (by decide) rfl dX2_tell_3 ?_
  refine aw_sub [2, 3, 4, 1, 0] (lv' := [(0, q_r 60), (1, q_r 1), (2, q_i x2), (3, q_i (0 : Int32)), (4, q_i (0 : Int32))]) rfl ?_
  exact lp_X2_tell_5 hK hR _ hF
def F_X7_guess (N : Nat) (m : Mem) : Option (Int32 × Mem) :=
  cal (F_X2_tell N m (m 0 1)) fun r3 m2 =>
  some (r3, m2)
set_option maxRecDepth 100000 in
set_option maxHeartbeats 4000000 in
theorem tr_X7_guess {N : Nat} {m m' : Mem} {r : Int32} (hF : F_X7_guess N m = some (r, m')) : Tr yX7_guess wsX7_guess 3 71 [q_r 0] m (some r) m' := by
  refine tr_of (bytes := cX7_guess) (maxL := 1) (ret := (some .int)) (by decide) rfl (Nat.le_of_ble_eq_true rfl) (fun K hK hR => ?_)
  have hK : KOK K cX7_guess 1 RX7 wsX7_guess 3 0 71 := hK
  show AW K 0 0 [(0, q_r 0)] [] m
  unfold F_X7_guess at hF
  refine aw_aload_n hK 0 rfl dX7_guess_0 ?_
  refine gf_7_7 hK rfl (60) rfl (List.mem_of_getElem? (i := 1) rfl) dX7_guess_1 ?_
  refine aw_aload_n hK 0 rfl dX7_guess_4 ?_
  refine gf_7_0 hK rfl (1) rfl (List.mem_of_getElem? (i := 2) rfl) dX7_guess_5 ?_
  refine aw_aload_n hK 0 rfl dX7_guess_8 ?_
  refine gf_7_1 hK rfl (List.mem_of_getElem? (i := 3) rfl) dX7_guess_9 ?_
  obtain ⟨r3, m2, h1, hF⟩ := cal_some hF
  refine aw_cv hK 2 (as := [q_r 1, q_i (m 0 1)]) (tr_X2_tell h1) gX7_guess_X2_tell rfl rfl rfl (by decide) (na := 2) (by decide +kernel) rfl ⟨by decide, by decide⟩ (Nat.zero_le _) (Nat.le_of_ble_eq_true rfl) dX7_guess_12 ?_
  obtain ⟨rfl, rfl⟩ := so_inj hF
  exact aw_iret hK hR rfl dX7_guess_15
