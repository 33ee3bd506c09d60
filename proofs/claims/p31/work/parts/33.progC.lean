def B_X5_leadsToUseful_35 (N : Nat) (rec_2 : Mem → Int32 → Int32 → Option (Int32 × Mem)) (m : Mem) (x1 : Int32) (x2 : Int32) : Option (Int32 × Mem) :=
  bnd (x2 + (1 : Int32)) fun y4 =>
  rec_2 m x1 y4
set_option maxRecDepth 100000 in
set_option maxHeartbeats 4000000 in
theorem bk_X5_leadsToUseful_35 {N : Nat} {K : KT} {m' : Mem} {rec_2 : Mem → Int32 → Int32 → Option (Int32 × Mem)} {r : Int32} (hK : KOK K cX5_leadsToUseful 4 RX5 wsX5_leadsToUseful 0 0 0) (hR : KRet K (some .boolean) (some r) m') (hrec_2 : ∀ {m : Mem} {x1 : Int32} {x2 : Int32}, rec_2 m x1 x2 = some (r, m') → AW K 0 2 [(0, q_r 20), (1, q_i x1), (2, q_i x2)] [] m) {m : Mem} {x1 : Int32} {x2 : Int32} (hF : B_X5_leadsToUseful_35 N rec_2 m x1 x2 = some (r, m')) : AW K 0 35 [(0, q_r 20), (1, q_i x1), (2, q_i x2)] [] m := by
  unfold B_X5_leadsToUseful_35 at hF
  obtain ⟨y4, hy4, hF⟩ := bnd_some hF
  refine aw_iinc hK (cz := 1) 2 [(2, q_i y4), (0, q_r 20), (1, q_i x1)] (by decide) rfl rfl hy4 rfl dX5_leadsToUseful_35 ?_
  refine aw_goto hK 2 rfl dX5_leadsToUseful_38 ?_
  refine aw_sub [1, 2, 0] (lv' := [(0, q_r 20), (1, q_i x1), (2, q_i y4)]) rfl ?_
  exact hrec_2 hF
def S_X5_leadsToUseful_2 (N : Nat) (rec_2 : Mem → Int32 → Int32 → Option (Int32 × Mem)) (m : Mem) (x1 : Int32) (x2 : Int32) : Option (Int32 × Mem) :=
  if (8 : Int32) ≤ x2 then (
    some ((0 : Int32), m)
  ) else (
    gd (inb ((x1 * (8 : Int32)) + x2) (alen 29)) <|
    bnd (m 29 (ix ((x1 * (8 : Int32)) + x2))) fun y2 =>
    if y2 < (0 : Int32) then (
      B_X5_leadsToUseful_35 N rec_2 m x1 x2
    ) else (
      gd (inb y2 (alen 32)) <|
      if (m 32 (ix y2)) = (0 : Int32) then (
        B_X5_leadsToUseful_35 N rec_2 m x1 x2
      ) else (
        some ((1 : Int32), m)
      )
    )
  )
def L_X5_leadsToUseful_2 (N : Nat) : Nat → Mem → Int32 → Int32 → Option (Int32 × Mem)
  | 0 => fun _ _ _ => none
  | f + 1 => S_X5_leadsToUseful_2 N (L_X5_leadsToUseful_2 N f)
set_option maxRecDepth 100000 in
set_option maxHeartbeats 4000000 in
theorem lp_X5_leadsToUseful_2 {N : Nat} {K : KT} {m' : Mem} {r : Int32} (hK : KOK K cX5_leadsToUseful 4 RX5 wsX5_leadsToUseful 0 0 0) (hR : KRet K (some .boolean) (some r) m') : ∀ (f : Nat) {m : Mem} {x1 : Int32} {x2 : Int32}, L_X5_leadsToUseful_2 N f m x1 x2 = some (r, m') → AW K 0 2 [(0, q_r 20), (1, q_i x1), (2, q_i x2)] [] m := by
  intro f
  induction f with
  | zero => intro m x1 x2 hF; cases hF
  | succ f hrec_2 =>
    intro m x1 x2 hF
    have hF : S_X5_leadsToUseful_2 N (L_X5_leadsToUseful_2 N f) m x1 x2 = some (r, m') := hF
    unfold S_X5_leadsToUseful_2 at hF
    refine aw_iload_n hK 2 rfl dX5_leadsToUseful_2 ?_
    refine aw_bipush hK (8) rfl dX5_leadsToUseful_3 ?_
    refine aw_icmp_ge hK 41 rfl dX5_leadsToUseful_5 (fun hc => ?_) (fun hc => ?_)
    · have hF := if_t hF hc
      refine aw_iconst hK (0) rfl dX5_leadsToUseful_41 ?_
      obtain ⟨rfl, rfl⟩ := so_inj hF
      exact aw_iret hK hR rfl dX5_leadsToUseful_42
    · have hF := if_f hF hc
      refine aw_aload_n hK 0 rfl dX5_leadsToUseful_8 ?_
      refine gf_5_5 hK rfl (29) rfl (List.mem_of_getElem? (i := 1) rfl) dX5_leadsToUseful_9 ?_
      refine aw_iload_n hK 1 rfl dX5_leadsToUseful_12 ?_
      refine aw_bipush hK (8) rfl dX5_leadsToUseful_13 ?_
      refine aw_imul hK dX5_leadsToUseful_15 ?_
      refine aw_iload_n hK 2 rfl dX5_leadsToUseful_16 ?_
      refine aw_iadd hK dX5_leadsToUseful_17 ?_
      obtain ⟨g1, hF⟩ := gd_some hF
      refine aw_iald hK rfl g1 dX5_leadsToUseful_18 ?_
      obtain ⟨y2, hy2, hF⟩ := bnd_some hF
      refine aw_nm hy2 ?_
      refine aw_istore_n hK [(3, q_i y2), (0, q_r 20), (1, q_i x1), (2, q_i x2)] (by decide) rfl dX5_leadsToUseful_19 ?_
      refine aw_iload_n hK 0 rfl dX5_leadsToUseful_20 ?_
      refine aw_if_lt hK 35 rfl dX5_leadsToUseful_21 (fun hc => ?_) (fun hc => ?_)
      · have hF := if_t hF hc
        refine aw_sub [1, 2, 3] (lv' := [(0, q_r 20), (1, q_i x1), (2, q_i x2)]) rfl ?_
        exact bk_X5_leadsToUseful_35 hK hR hrec_2 hF
      · have hF := if_f hF hc
        refine aw_aload_n hK 1 rfl dX5_leadsToUseful_24 ?_
        refine gf_5_9 hK rfl (32) rfl (List.mem_of_getElem? (i := 2) rfl) dX5_leadsToUseful_25 ?_
        refine aw_iload_n hK 0 rfl dX5_leadsToUseful_28 ?_
        obtain ⟨g3, hF⟩ := gd_some hF
        refine aw_zald hK rfl g3 dX5_leadsToUseful_29 ?_
        refine aw_if_eq hK 35 rfl dX5_leadsToUseful_30 (fun hc => ?_) (fun hc => ?_)
        · have hF := if_t hF hc
          refine aw_sub [1, 2, 3] (lv' := [(0, q_r 20), (1, q_i x1), (2, q_i x2)]) rfl ?_
          exact bk_X5_leadsToUseful_35 hK hR hrec_2 hF
        · have hF := if_f hF hc
          refine aw_iconst hK (1) rfl dX5_leadsToUseful_33 ?_
          obtain ⟨rfl, rfl⟩ := so_inj hF
          exact aw_iret hK hR rfl dX5_leadsToUseful_34
def F_X5_leadsToUseful (N : Nat) (m : Mem) (x1 : Int32) : Option (Int32 × Mem) :=
  L_X5_leadsToUseful_2 N N m x1 (0 : Int32)
set_option maxRecDepth 100000 in
set_option maxHeartbeats 4000000 in
theorem tr_X5_leadsToUseful {N : Nat} {m m' : Mem} {r : Int32} {x1 : Int32} (hF : F_X5_leadsToUseful N m x1 = some (r, m')) : Tr yX5_leadsToUseful wsX5_leadsToUseful 0 0 [q_r 20, q_i x1] m (some r) m' := by
  refine tr_of (bytes := cX5_leadsToUseful) (maxL := 4) (ret := (some .boolean)) (by decide) rfl (Nat.le_of_ble_eq_true rfl) (fun K hK hR => ?_)
  have hK : KOK K cX5_leadsToUseful 4 RX5 wsX5_leadsToUseful 0 0 0 := hK
  show AW K 0 0 [(0, q_r 20), (1, q_i x1)] [] m
  unfold F_X5_leadsToUseful at hF
  refine aw_iconst hK (0) rfl dX5_leadsToUseful_0 ?_
  refine aw_istore_n hK [(2, q_i (0 : Int32)), (0, q_r 20), (1, q_i x1)] (by decide) rfl dX5_leadsToUseful_1 ?_
  refine aw_sub [1, 2, 0] (lv' := [(0, q_r 20), (1, q_i x1), (2, q_i (0 : Int32))]) rfl ?_
  exact lp_X5_leadsToUseful_2 hK hR _ hF
def B_X5_markUseful_94 (N : Nat) (m : Mem) : Option Mem :=
  some m
set_option maxRecDepth 100000 in
set_option maxHeartbeats 4000000 in
theorem bk_X5_markUseful_94 {N : Nat} {K : KT} {m' : Mem} (hK : KOK K cX5_markUseful 4 RX5 wsX5_markUseful 2 0 44) (hR : KRet K none none m') {m : Mem} (hF : B_X5_markUseful_94 N m = some m') : AW K 0 94 [] [] m := by
  unfold B_X5_markUseful_94 at hF
  obtain rfl := Option.some.inj hF
  exact aw_vret hK hR dX5_markUseful_94
def B_X5_markUseful_82 (N : Nat) (rec_31 : Mem → Int32 → Int32 → Option Mem) (rec_52 : Mem → Int32 → Int32 → Int32 → Option Mem) (m : Mem) (x1 : Int32) (x2 : Int32) (x3 : Int32) : Option Mem :=
  bnd (x3 + (-1 : Int32)) fun y16 =>
  rec_52 m x1 x2 y16
set_option maxRecDepth 100000 in
set_option maxHeartbeats 4000000 in
theorem bk_X5_markUseful_82 {N : Nat} {K : KT} {m' : Mem} {rec_31 : Mem → Int32 → Int32 → Option Mem} {rec_52 : Mem → Int32 → Int32 → Int32 → Option Mem} (hK : KOK K cX5_markUseful 4 RX5 wsX5_markUseful 2 0 44) (hR : KRet K none none m') (hrec_31 : ∀ {m : Mem} {x1 : Int32} {x2 : Int32}, rec_31 m x1 x2 = some m' → AW K 0 31 [(0, q_r 20), (1, q_i x1), (2, q_i x2)] [] m) (hrec_52 : ∀ {m : Mem} {x1 : Int32} {x2 : Int32} {x3 : Int32}, rec_52 m x1 x2 x3 = some m' → AW K 0 52 [(0, q_r 20), (1, q_i x1), (2, q_i x2), (3, q_i x3)] [] m) {m : Mem} {x1 : Int32} {x2 : Int32} {x3 : Int32} (hF : B_X5_markUseful_82 N rec_31 rec_52 m x1 x2 x3 = some m') : AW K 0 82 [(0, q_r 20), (1, q_i x1), (2, q_i x2), (3, q_i x3)] [] m := by
  unfold B_X5_markUseful_82 at hF
  obtain ⟨y16, hy16, hF⟩ := bnd_some hF
  refine aw_iinc hK (cz := -1) 3 [(3, q_i y16), (0, q_r 20), (1, q_i x1), (2, q_i x2)] (by decide) rfl rfl hy16 rfl dX5_markUseful_82 ?_
  refine aw_goto hK 52 rfl dX5_markUseful_85 ?_
  refine aw_sub [1, 2, 3, 0] (lv' := [(0, q_r 20), (1, q_i x1), (2, q_i x2), (3, q_i y16)]) rfl ?_
  exact hrec_52 hF
def S_X5_markUseful_52 (N : Nat) (rec_31 : Mem → Int32 → Int32 → Option Mem) (rec_52 : Mem → Int32 → Int32 → Int32 → Option Mem) (m : Mem) (x1 : Int32) (x2 : Int32) (x3 : Int32) : Option Mem :=
  if x3 < (0 : Int32) then (
    bnd (x2 + (1 : Int32)) fun y9 =>
    rec_31 m x1 y9
  ) else (
    gd (inb x3 (alen 32)) <|
    if (m 32 (ix x3)) = (0 : Int32) then (
      cal (F_X5_leadsToUseful N m x3) fun r13 m12 =>
      if r13 = (0 : Int32) then (
        B_X5_markUseful_82 N rec_31 rec_52 m12 x1 x2 x3
      ) else (
        gd (inb x3 (alen 32)) <|
        bnd (mup m12 32 (ix x3) (1 : Int32)) fun m15 =>
        B_X5_markUseful_82 N rec_31 rec_52 m15 (1 : Int32) x2 x3
      )
    ) else (
      B_X5_markUseful_82 N rec_31 rec_52 m x1 x2 x3
    )
  )
def L_X5_markUseful_52 (N : Nat) (rec_31 : Mem → Int32 → Int32 → Option Mem) : Nat → Mem → Int32 → Int32 → Int32 → Option Mem
  | 0 => fun _ _ _ _ => none
  | f + 1 => S_X5_markUseful_52 N rec_31 (L_X5_markUseful_52 N rec_31 f)
set_option maxRecDepth 100000 in
set_option maxHeartbeats 4000000 in
theorem lp_X5_markUseful_52 {N : Nat} {K : KT} {m' : Mem} {rec_31 : Mem → Int32 → Int32 → Option Mem} (hK : KOK K cX5_markUseful 4 RX5 wsX5_markUseful 2 0 44) (hR : KRet K none none m') (hrec_31 : ∀ {m : Mem} {x1 : Int32} {x2 : Int32}, rec_31 m x1 x2 = some m' → AW K 0 31 [(0, q_r 20), (1, q_i x1), (2, q_i x2)] [] m) : ∀ (f : Nat) {m : Mem} {x1 : Int32} {x2 : Int32} {x3 : Int32}, L_X5_markUseful_52 N rec_31 f m x1 x2 x3 = some m' → AW K 0 52 [(0, q_r 20), (1, q_i x1), (2, q_i x2), (3, q_i x3)] [] m := by
  intro f
  induction f with
  | zero => intro m x1 x2 x3 hF; cases hF
  | succ f hrec_52 =>
    intro m x1 x2 x3 hF
    have hF : S_X5_markUseful_52 N rec_31 (L_X5_markUseful_52 N rec_31 f) m x1 x2 x3 = some m' := hF
    unfold S_X5_markUseful_52 at hF
    refine aw_iload_n hK 3 rfl dX5_markUseful_52 ?_
    refine aw_if_lt hK 88 rfl dX5_markUseful_53 (fun hc => ?_) (fun hc => ?_)
    · have hF := if_t hF hc
      obtain ⟨y9, hy9, hF⟩ := bnd_some hF
      refine aw_iinc hK (cz := 1) 2 [(2, q_i y9), (0, q_r 20), (1, q_i x1), (3, q_i x3)] (by decide) rfl rfl hy9 rfl dX5_markUseful_88 ?_
      refine aw_goto hK 31 rfl dX5_markUseful_91 ?_
      refine aw_sub [1, 2, 0] (lv' := [(0, q_r 20), (1, q_i x1), (2, q_i y9)]) rfl ?_
      exact hrec_31 hF
    · have hF := if_f hF hc
      refine aw_aload_n hK 0 rfl dX5_markUseful_56 ?_
      refine gf_5_9 hK rfl (32) rfl (List.mem_of_getElem? (i := 2) rfl) dX5_markUseful_57 ?_
      refine aw_iload_n hK 3 rfl dX5_markUseful_60 ?_
      obtain ⟨g10, hF⟩ := gd_some hF
      refine aw_zald hK rfl g10 dX5_markUseful_61 ?_
      refine aw_if_ne hK 82 rfl dX5_markUseful_62 (fun hc => ?_) (fun hc => ?_)
      · have hF := if_f hF hc
        refine aw_sub [0, 1, 2, 3] (lv' := [(0, q_r 20), (1, q_i x1), (2, q_i x2), (3, q_i x3)]) rfl ?_
        exact bk_X5_markUseful_82 hK hR hrec_31 hrec_52 hF
      · have hF := if_t hF hc
        refine aw_aload_n hK 0 rfl dX5_markUseful_65 ?_
        refine aw_iload_n hK 3 rfl dX5_markUseful_66 ?_
        obtain ⟨r13, m12, h11, hF⟩ := cal_some hF
        refine aw_cv hK 5 (as := [q_i x3]) (tr_X5_leadsToUseful h11) gX5_markUseful_X5_leadsToUseful rfl rfl rfl (by decide) (na := 1) (by decide +kernel) rfl ⟨by decide, by decide⟩ (Nat.zero_le _) (Nat.le_of_ble_eq_true rfl) dX5_markUseful_67 ?_
        refine aw_if_eq hK 82 rfl dX5_markUseful_70 (fun hc => ?_) (fun hc => ?_)
        · have hF := if_t hF hc
          refine aw_sub [0, 1, 2, 3] (lv' := [(0, q_r 20), (1, q_i x1), (2, q_i x2), (3, q_i x3)]) rfl ?_
          exact bk_X5_markUseful_82 hK hR hrec_31 hrec_52 hF
        · have hF := if_f hF hc
          refine aw_aload_n hK 0 rfl dX5_markUseful_73 ?_
          refine gf_5_9 hK rfl (32) rfl (List.mem_of_getElem? (i := 2) rfl) dX5_markUseful_74 ?_
          refine aw_iload_n hK 3 rfl dX5_markUseful_77 ?_
          refine aw_iconst hK (1) rfl dX5_markUseful_78 ?_
          obtain ⟨g14, hF⟩ := gd_some hF
          refine aw_zast hK rfl g14 rfl dX5_markUseful_79 ?_
          obtain ⟨m15, hm15, hF⟩ := bnd_some hF
          refine aw_mm hm15 ?_
          refine aw_iconst hK (1) rfl dX5_markUseful_80 ?_
          refine aw_istore_n hK [(1, q_i (1 : Int32)), (0, q_r 20), (2, q_i x2), (3, q_i x3)] (by decide) rfl dX5_markUseful_81 ?_
          refine aw_sub [1, 0, 2, 3] (lv' := [(0, q_r 20), (1, q_i (1 : Int32)), (2, q_i x2), (3, q_i x3)]) rfl ?_
          exact bk_X5_markUseful_82 hK hR hrec_31 hrec_52 hF
def S_X5_markUseful_31 (N : Nat) (rec_31 : Mem → Int32 → Int32 → Option Mem) (m : Mem) (x1 : Int32) (x2 : Int32) : Option Mem :=
  if x1 = (0 : Int32) then (
    B_X5_markUseful_94 N m
  ) else (
    if (m 20 8) ≤ x2 then (
      B_X5_markUseful_94 N m
    ) else (
      bnd ((m 20 8) - (1 : Int32)) fun y8 =>
      L_X5_markUseful_52 N rec_31 N m (0 : Int32) x2 y8
    )
  )
def L_X5_markUseful_31 (N : Nat) : Nat → Mem → Int32 → Int32 → Option Mem
  | 0 => fun _ _ _ => none
  | f + 1 => S_X5_markUseful_31 N (L_X5_markUseful_31 N f)
set_option maxRecDepth 100000 in
set_option maxHeartbeats 4000000 in
theorem lp_X5_markUseful_31 {N : Nat} {K : KT} {m' : Mem} (hK : KOK K cX5_markUseful 4 RX5 wsX5_markUseful 2 0 44) (hR : KRet K none none m') : ∀ (f : Nat) {m : Mem} {x1 : Int32} {x2 : Int32}, L_X5_markUseful_31 N f m x1 x2 = some m' → AW K 0 31 [(0, q_r 20), (1, q_i x1), (2, q_i x2)] [] m := by
  intro f
  induction f with
  | zero => intro m x1 x2 hF; cases hF
  | succ f hrec_31 =>
    intro m x1 x2 hF
    have hF : S_X5_markUseful_31 N (L_X5_markUseful_31 N f) m x1 x2 = some m' := hF
    unfold S_X5_markUseful_31 at hF
    refine aw_iload_n hK 1 rfl dX5_markUseful_31 ?_
    refine aw_if_eq hK 94 rfl dX5_markUseful_32 (fun hc => ?_) (fun hc => ?_)
    · have hF := if_t hF hc
      refine aw_sub [] (lv' := []) rfl ?_
      exact bk_X5_markUseful_94 hK hR hF
    · have hF := if_f hF hc
      refine aw_iload_n hK 2 rfl dX5_markUseful_35 ?_
      refine aw_aload_n hK 0 rfl dX5_markUseful_36 ?_
      refine gf_5_8 hK rfl (List.mem_of_getElem? (i := 1) rfl) dX5_markUseful_37 ?_
      refine aw_icmp_ge hK 94 rfl dX5_markUseful_40 (fun hc => ?_) (fun hc => ?_)
      · have hF := if_t hF hc
        refine aw_sub [] (lv' := []) rfl ?_
        exact bk_X5_markUseful_94 hK hR hF
      · have hF := if_f hF hc
        refine aw_iconst hK (0) rfl dX5_markUseful_43 ?_
        refine aw_istore_n hK [(1, q_i (0 : Int32)), (0, q_r 20), (2, q_i x2)] (by decide) rfl dX5_markUseful_44 ?_
        refine aw_aload_n hK 1 rfl dX5_markUseful_45 ?_
        refine gf_5_8 hK rfl (List.mem_of_getElem? (i := 1) rfl) dX5_markUseful_46 ?_
        refine aw_iconst hK (1) rfl dX5_markUseful_49 ?_
        refine aw_isub hK dX5_markUseful_50 ?_
        obtain ⟨y8, hy8, hF⟩ := bnd_some hF
        refine aw_nm hy8 ?_
        refine aw_istore_n hK [(3, q_i y8), (1, q_i (0 : Int32)), (0, q_r 20), (2, q_i x2)] (by decide) rfl dX5_markUseful_51 ?_
        refine aw_sub [2, 1, 3, 0] (lv' := [(0, q_r 20), (1, q_i (0 : Int32)), (2, q_i x2), (3, q_i y8)]) rfl ?_
        exact lp_X5_markUseful_52 hK hR hrec_31 _ hF
def S_X5_markUseful_2 (N : Nat) (rec_2 : Mem → Int32 → Option Mem) (m : Mem) (x1 : Int32) : Option Mem :=
  if (m 20 8) ≤ x1 then (
    L_X5_markUseful_31 N N m (1 : Int32) (0 : Int32)
  ) else (
    cal (F_X5_isWanted N m x1) fun r3 m2 =>
    gd (inb x1 (alen 32)) <|
    gd (isb r3) <|
    bnd (mup m2 32 (ix x1) r3) fun m6 =>
    bnd (x1 + (1 : Int32)) fun y7 =>
    rec_2 m6 y7
  )
def L_X5_markUseful_2 (N : Nat) : Nat → Mem → Int32 → Option Mem
  | 0 => fun _ _ => none
  | f + 1 => S_X5_markUseful_2 N (L_X5_markUseful_2 N f)
set_option maxRecDepth 100000 in
set_option maxHeartbeats 4000000 in
theorem lp_X5_markUseful_2 {N : Nat} {K : KT} {m' : Mem} (hK : KOK K cX5_markUseful 4 RX5 wsX5_markUseful 2 0 44) (hR : KRet K none none m') : ∀ (f : Nat) {m : Mem} {x1 : Int32}, L_X5_markUseful_2 N f m x1 = some m' → AW K 0 2 [(0, q_r 20), (1, q_i x1)] [] m := by
  intro f
  induction f with
  | zero => intro m x1 hF; cases hF
  | succ f hrec_2 =>
    intro m x1 hF
    have hF : S_X5_markUseful_2 N (L_X5_markUseful_2 N f) m x1 = some m' := hF
    unfold S_X5_markUseful_2 at hF
    refine aw_iload_n hK 1 rfl dX5_markUseful_2 ?_
    refine aw_aload_n hK 0 rfl dX5_markUseful_3 ?_
    refine gf_5_8 hK rfl (List.mem_of_getElem? (i := 1) rfl) dX5_markUseful_4 ?_
    refine aw_icmp_ge hK 27 rfl dX5_markUseful_7 (fun hc => ?_) (fun hc => ?_)
    · have hF := if_t hF hc
      refine aw_iconst hK (1) rfl dX5_markUseful_27 ?_
      refine aw_istore_n hK [(1, q_i (1 : Int32)), (0, q_r 20)] (by decide) rfl dX5_markUseful_28 ?_
      refine aw_iconst hK (0) rfl dX5_markUseful_29 ?_
      refine aw_istore_n hK [(2, q_i (0 : Int32)), (1, q_i (1 : Int32)), (0, q_r 20)] (by decide) rfl dX5_markUseful_30 ?_
      refine aw_sub [2, 1, 0] (lv' := [(0, q_r 20), (1, q_i (1 : Int32)), (2, q_i (0 : Int32))]) rfl ?_
      exact lp_X5_markUseful_31 hK hR _ hF
    · have hF := if_f hF hc
      refine aw_aload_n hK 0 rfl dX5_markUseful_10 ?_
      refine gf_5_9 hK rfl (32) rfl (List.mem_of_getElem? (i := 2) rfl) dX5_markUseful_11 ?_
      refine aw_iload_n hK 1 rfl dX5_markUseful_14 ?_
      refine aw_aload_n hK 0 rfl dX5_markUseful_15 ?_
      refine aw_iload_n hK 1 rfl dX5_markUseful_16 ?_
      obtain ⟨r3, m2, h1, hF⟩ := cal_some hF
      refine aw_cv hK 5 (as := [q_i x1]) (tr_X5_isWanted h1) gX5_markUseful_X5_isWanted rfl rfl rfl (by decide) (na := 1) (by decide +kernel) rfl ⟨by decide, by decide⟩ (Nat.zero_le _) (Nat.le_of_ble_eq_true rfl) dX5_markUseful_17 ?_
      obtain ⟨g4, hF⟩ := gd_some hF
      obtain ⟨g5, hF⟩ := gd_some hF
      refine aw_zast hK rfl g4 g5 dX5_markUseful_20 ?_
      obtain ⟨m6, hm6, hF⟩ := bnd_some hF
      refine aw_mm hm6 ?_
      obtain ⟨y7, hy7, hF⟩ := bnd_some hF
      refine aw_iinc hK (cz := 1) 1 [(1, q_i y7), (0, q_r 20)] (by decide) rfl rfl hy7 rfl dX5_markUseful_21 ?_
      refine aw_goto hK 2 rfl dX5_markUseful_24 ?_
      refine aw_sub [1, 0] (lv' := [(0, q_r 20), (1, q_i y7)]) rfl ?_
      exact hrec_2 hF
def F_X5_markUseful (N : Nat) (m : Mem) : Option Mem :=
  L_X5_markUseful_2 N N m (0 : Int32)
set_option maxRecDepth 100000 in
set_option maxHeartbeats 4000000 in
theorem tr_X5_markUseful {N : Nat} {m m' : Mem} (hF : F_X5_markUseful N m = some m') : Tr yX5_markUseful wsX5_markUseful 2 44 [q_r 20] m none m' := by
  refine tr_of (bytes := cX5_markUseful) (maxL := 4) (ret := none) (by decide) rfl (Nat.le_of_ble_eq_true rfl) (fun K hK hR => ?_)
  have hK : KOK K cX5_markUseful 4 RX5 wsX5_markUseful 2 0 44 := hK
  show AW K 0 0 [(0, q_r 20)] [] m
  unfold F_X5_markUseful at hF
  refine aw_iconst hK (0) rfl dX5_markUseful_0 ?_
  refine aw_istore_n hK [(1, q_i (0 : Int32)), (0, q_r 20)] (by decide) rfl dX5_markUseful_1 ?_
  refine aw_sub [1, 0] (lv' := [(0, q_r 20), (1, q_i (0 : Int32))]) rfl ?_
  exact lp_X5_markUseful_2 hK hR _ hF
def B_X5_groupBehind_26 (N : Nat) (m : Mem) (s0 : Int32) : Option (Int32 × Mem) :=
  some (s0, m)
set_option maxRecDepth 100000 in
set_option maxHeartbeats 4000000 in
theorem bk_X5_groupBehind_26 {N : Nat} {K : KT} {m' : Mem} {r : Int32} (hK : KOK K cX5_groupBehind 4 RX5 wsX5_groupBehind 0 0 0) (hR : KRet K (some .int) (some r) m') {m : Mem} {s0 : Int32} (hF : B_X5_groupBehind_26 N m s0 = some (r, m')) : AW K 0 26 [] [q_i s0] m := by
  unfold B_X5_groupBehind_26 at hF
  obtain ⟨rfl, rfl⟩ := so_inj hF
  exact aw_iret hK hR rfl dX5_groupBehind_26
def F_X5_groupBehind (N : Nat) (m : Mem) (x1 : Int32) (x2 : Int32) : Option (Int32 × Mem) :=
  gd (inb ((x1 * (8 : Int32)) + x2) (alen 29)) <|
  bnd (m 29 (ix ((x1 * (8 : Int32)) + x2))) fun y2 =>
  if (0 : Int32) ≤ y2 then (
    bnd (ix (m 20 10)) fun q3 => gd (knd q3 == 10) <|
    gd (inb y2 (alen q3)) <|
    B_X5_groupBehind_26 N m (m q3 (ix y2))
  ) else (
    B_X5_groupBehind_26 N m (-1 : Int32)
  )
set_option maxRecDepth 100000 in
set_option maxHeartbeats 4000000 in
theorem tr_X5_groupBehind {N : Nat} {m m' : Mem} {r : Int32} {x1 : Int32} {x2 : Int32} (hF : F_X5_groupBehind N m x1 x2 = some (r, m')) : Tr yX5_groupBehind wsX5_groupBehind 0 0 [q_r 20, q_i x1, q_i x2] m (some r) m' := by
  refine tr_of (bytes := cX5_groupBehind) (maxL := 4) (ret := (some .int)) (by decide) rfl (Nat.le_of_ble_eq_true rfl) (fun K hK hR => ?_)
  have hK : KOK K cX5_groupBehind 4 RX5 wsX5_groupBehind 0 0 0 := hK
  show AW K 0 0 [(0, q_r 20), (1, q_i x1), (2, q_i x2)] [] m
  unfold F_X5_groupBehind at hF
  refine aw_aload_n hK 0 rfl dX5_groupBehind_0 ?_
  refine gf_5_5 hK rfl (29) rfl (List.mem_of_getElem? (i := 1) rfl) dX5_groupBehind_1 ?_
  refine aw_iload_n hK 1 rfl dX5_groupBehind_4 ?_
  refine aw_bipush hK (8) rfl dX5_groupBehind_5 ?_
  refine aw_imul hK dX5_groupBehind_7 ?_
  refine aw_iload_n hK 2 rfl dX5_groupBehind_8 ?_
  refine aw_iadd hK dX5_groupBehind_9 ?_
  obtain ⟨g1, hF⟩ := gd_some hF
  refine aw_iald hK rfl g1 dX5_groupBehind_10 ?_
  obtain ⟨y2, hy2, hF⟩ := bnd_some hF
  refine aw_nm hy2 ?_
  refine aw_istore_n hK [(3, q_i y2), (0, q_r 20), (1, q_i x1), (2, q_i x2)] (by decide) rfl dX5_groupBehind_11 ?_
  refine aw_iload_n hK 0 rfl dX5_groupBehind_12 ?_
  refine aw_if_ge hK 20 rfl dX5_groupBehind_13 (fun hc => ?_) (fun hc => ?_)
  · have hF := if_t hF hc
    refine aw_aload_n hK 1 rfl dX5_groupBehind_20 ?_
    refine gf_5_10 hK rfl (List.mem_of_getElem? (i := 2) rfl) dX5_groupBehind_21 ?_
    obtain ⟨q3, hq3, hF⟩ := bnd_some hF
    obtain ⟨g4, hF⟩ := gd_some hF
    refine aw_nr hq3 ?_
    refine aw_iload_n hK 0 rfl dX5_groupBehind_24 ?_
    obtain ⟨g5, hF⟩ := gd_some hF
    refine aw_iald hK (eq_of_beq g4) g5 dX5_groupBehind_25 ?_
    refine aw_sub [] (lv' := []) rfl ?_
    exact bk_X5_groupBehind_26 hK hR hF
  · have hF := if_f hF hc
    refine aw_iconst hK (-1) rfl dX5_groupBehind_16 ?_
    refine aw_goto hK 26 rfl dX5_groupBehind_17 ?_
    refine aw_sub [] (lv' := []) rfl ?_
    exact bk_X5_groupBehind_26 hK hR hF
def S_X5_areAlike_19 (N : Nat) (rec_19 : Mem → Int32 → Int32 → Int32 → Option (Int32 × Mem)) (m : Mem) (x1 : Int32) (x2 : Int32) (x3 : Int32) : Option (Int32 × Mem) :=
  if (8 : Int32) ≤ x3 then (
    some ((1 : Int32), m)
  ) else (
    cal (F_X5_groupBehind N m x1 x3) fun r9 m8 =>
    cal (F_X5_groupBehind N m8 x2 x3) fun r12 m11 =>
    if r9 = r12 then (
      bnd (x3 + (1 : Int32)) fun y13 =>
      rec_19 m11 x1 x2 y13
    ) else (
      some ((0 : Int32), m11)
    )
  )
def L_X5_areAlike_19 (N : Nat) : Nat → Mem → Int32 → Int32 → Int32 → Option (Int32 × Mem)
  | 0 => fun _ _ _ _ => none
  | f + 1 => S_X5_areAlike_19 N (L_X5_areAlike_19 N f)
set_option maxRecDepth 100000 in
set_option maxHeartbeats 4000000 in
theorem lp_X5_areAlike_19 {N : Nat} {K : KT} {m' : Mem} {r : Int32} (hK : KOK K cX5_areAlike 4 RX5 wsX5_areAlike 1 0 23) (hR : KRet K (some .boolean) (some r) m') : ∀ (f : Nat) {m : Mem} {x1 : Int32} {x2 : Int32} {x3 : Int32}, L_X5_areAlike_19 N f m x1 x2 x3 = some (r, m') → AW K 0 19 [(0, q_r 20), (1, q_i x1), (2, q_i x2), (3, q_i x3)] [] m := by
  intro f
  induction f with
  | zero => intro m x1 x2 x3 hF; cases hF
  | succ f hrec_19 =>
    intro m x1 x2 x3 hF
    have hF : S_X5_areAlike_19 N (L_X5_areAlike_19 N f) m x1 x2 x3 = some (r, m') := hF
    unfold S_X5_areAlike_19 at hF
    refine aw_iload_n hK 3 rfl dX5_areAlike_19 ?_
    refine aw_bipush hK (8) rfl dX5_areAlike_20 ?_
    refine aw_icmp_ge hK 48 rfl dX5_areAlike_22 (fun hc => ?_) (fun hc => ?_)
    · have hF := if_t hF hc
      refine aw_iconst hK (1) rfl dX5_areAlike_48 ?_
      obtain ⟨rfl, rfl⟩ := so_inj hF
      exact aw_iret hK hR rfl dX5_areAlike_49
    · have hF := if_f hF hc
      refine aw_aload_n hK 0 rfl dX5_areAlike_25 ?_
      refine aw_iload_n hK 1 rfl dX5_areAlike_26 ?_
      refine aw_iload_n hK 3 rfl dX5_areAlike_27 ?_
      obtain ⟨r9, m8, h7, hF⟩ := cal_some hF
      refine aw_cv hK 5 (as := [q_i x1, q_i x3]) (tr_X5_groupBehind h7) gX5_areAlike_X5_groupBehind rfl rfl rfl (by decide) (na := 2) (by decide +kernel) rfl ⟨by decide, by decide⟩ (Nat.zero_le _) (Nat.le_of_ble_eq_true rfl) dX5_areAlike_28 ?_
      refine aw_aload_n hK 0 rfl dX5_areAlike_31 ?_
      refine aw_iload_n hK 2 rfl dX5_areAlike_32 ?_
      refine aw_iload_n hK 3 rfl dX5_areAlike_33 ?_
      obtain ⟨r12, m11, h10, hF⟩ := cal_some hF
      refine aw_cv hK 5 (as := [q_i x2, q_i x3]) (tr_X5_groupBehind h10) gX5_areAlike_X5_groupBehind rfl rfl rfl (by decide) (na := 2) (by decide +kernel) rfl ⟨by decide, by decide⟩ (Nat.zero_le _) (Nat.le_of_ble_eq_true rfl) dX5_areAlike_34 ?_
      refine aw_icmp_eq hK 42 rfl dX5_areAlike_37 (fun hc => ?_) (fun hc => ?_)
      · have hF := if_t hF hc
        obtain ⟨y13, hy13, hF⟩ := bnd_some hF
        refine aw_iinc hK (cz := 1) 3 [(3, q_i y13), (0, q_r 20), (1, q_i x1), (2, q_i x2)] (by decide) rfl rfl hy13 rfl dX5_areAlike_42 ?_
        refine aw_goto hK 19 rfl dX5_areAlike_45 ?_
        refine aw_sub [1, 2, 3, 0] (lv' := [(0, q_r 20), (1, q_i x1), (2, q_i x2), (3, q_i y13)]) rfl ?_
        exact hrec_19 hF
      · have hF := if_f hF hc
        refine aw_iconst hK (0) rfl dX5_areAlike_40 ?_
        obtain ⟨rfl, rfl⟩ := so_inj hF
        exact aw_iret hK hR rfl dX5_areAlike_41
def F_X5_areAlike (N : Nat) (m : Mem) (x1 : Int32) (x2 : Int32) : Option (Int32 × Mem) :=
  bnd (ix (m 20 10)) fun q1 => gd (knd q1 == 10) <|
  gd (inb x1 (alen q1)) <|
  bnd (ix (m 20 10)) fun q4 => gd (knd q4 == 10) <|
  gd (inb x2 (alen q4)) <|
  if (m q1 (ix x1)) = (m q4 (ix x2)) then (
    L_X5_areAlike_19 N N m x1 x2 (0 : Int32)
  ) else (
    some ((0 : Int32), m)
  )
set_option maxRecDepth 100000 in
set_option maxHeartbeats 4000000 in
theorem tr_X5_areAlike {N : Nat} {m m' : Mem} {r : Int32} {x1 : Int32} {x2 : Int32} (hF : F_X5_areAlike N m x1 x2 = some (r, m')) : Tr yX5_areAlike wsX5_areAlike 1 23 [q_r 20, q_i x1, q_i x2] m (some r) m' := by
  refine tr_of (bytes := cX5_areAlike) (maxL := 4) (ret := (some .boolean)) (by decide) rfl (Nat.le_of_ble_eq_true rfl) (fun K hK hR => ?_)
  have hK : KOK K cX5_areAlike 4 RX5 wsX5_areAlike 1 0 23 := hK
  show AW K 0 0 [(0, q_r 20), (1, q_i x1), (2, q_i x2)] [] m
  unfold F_X5_areAlike at hF
  refine aw_aload_n hK 0 rfl dX5_areAlike_0 ?_
  refine gf_5_10 hK rfl (List.mem_of_getElem? (i := 1) rfl) dX5_areAlike_1 ?_
  obtain ⟨q1, hq1, hF⟩ := bnd_some hF
  obtain ⟨g2, hF⟩ := gd_some hF
  refine aw_nr hq1 ?_
  refine aw_iload_n hK 1 rfl dX5_areAlike_4 ?_
  obtain ⟨g3, hF⟩ := gd_some hF
  refine aw_iald hK (eq_of_beq g2) g3 dX5_areAlike_5 ?_
  refine aw_aload_n hK 0 rfl dX5_areAlike_6 ?_
  refine gf_5_10 hK rfl (List.mem_of_getElem? (i := 1) rfl) dX5_areAlike_7 ?_
  obtain ⟨q4, hq4, hF⟩ := bnd_some hF
  obtain ⟨g5, hF⟩ := gd_some hF
  refine aw_nr hq4 ?_
  refine aw_iload_n hK 2 rfl dX5_areAlike_10 ?_
  obtain ⟨g6, hF⟩ := gd_some hF
  refine aw_iald hK (eq_of_beq g5) g6 dX5_areAlike_11 ?_
  refine aw_icmp_eq hK 17 rfl dX5_areAlike_12 (fun hc => ?_) (fun hc => ?_)
  · have hF := if_t hF hc
    refine aw_iconst hK (0) rfl dX5_areAlike_17 ?_
    refine aw_istore_n hK [(3, q_i (0 : Int32)), (0, q_r 20), (1, q_i x1), (2, q_i x2)] (by decide) rfl dX5_areAlike_18 ?_
    refine aw_sub [1, 2, 3, 0] (lv' := [(0, q_r 20), (1, q_i x1), (2, q_i x2), (3, q_i (0 : Int32))]) rfl ?_
    exact lp_X5_areAlike_19 hK hR _ hF
  · have hF := if_f hF hc
    refine aw_iconst hK (0) rfl dX5_areAlike_15 ?_
    obtain ⟨rfl, rfl⟩ := so_inj hF
    exact aw_iret hK hR rfl dX5_areAlike_16
def S_X5_groupLike_2 (N : Nat) (rec_2 : Mem → Int32 → Int32 → Int32 → Option (Int32 × Mem)) (m : Mem) (x1 : Int32) (x2 : Int32) (x3 : Int32) : Option (Int32 × Mem) :=
  if x2 ≤ x3 then (
    some (x2, m)
  ) else (
    gd (inb x3 (alen 35)) <|
    cal (F_X5_areAlike N m (m 35 (ix x3)) x1) fun r4 m3 =>
    if r4 = (0 : Int32) then (
      bnd (x3 + (1 : Int32)) fun y5 =>
      rec_2 m3 x1 x2 y5
    ) else (
      some (x3, m3)
    )
  )
def L_X5_groupLike_2 (N : Nat) : Nat → Mem → Int32 → Int32 → Int32 → Option (Int32 × Mem)
  | 0 => fun _ _ _ _ => none
  | f + 1 => S_X5_groupLike_2 N (L_X5_groupLike_2 N f)
set_option maxRecDepth 100000 in
set_option maxHeartbeats 4000000 in
theorem lp_X5_groupLike_2 {N : Nat} {K : KT} {m' : Mem} {r : Int32} (hK : KOK K cX5_groupLike 4 RX5 wsX5_groupLike 2 0 46) (hR : KRet K (some .int) (some r) m') : ∀ (f : Nat) {m : Mem} {x1 : Int32} {x2 : Int32} {x3 : Int32}, L_X5_groupLike_2 N f m x1 x2 x3 = some (r, m') → AW K 0 2 [(0, q_r 20), (1, q_i x1), (2, q_i x2), (3, q_i x3)] [] m := by
  intro f
  induction f with
  | zero => intro m x1 x2 x3 hF; cases hF
  | succ f hrec_2 =>
    intro m x1 x2 x3 hF
    have hF : S_X5_groupLike_2 N (L_X5_groupLike_2 N f) m x1 x2 x3 = some (r, m') := hF
    unfold S_X5_groupLike_2 at hF
    refine aw_iload_n hK 3 rfl dX5_groupLike_2 ?_
    refine aw_iload_n hK 2 rfl dX5_groupLike_3 ?_
    refine aw_icmp_ge hK 29 rfl dX5_groupLike_4 (fun hc => ?_) (fun hc => ?_)
    · have hF := if_t hF hc
      refine aw_iload_n hK 2 rfl dX5_groupLike_29 ?_
      obtain ⟨rfl, rfl⟩ := so_inj hF
      exact aw_iret hK hR rfl dX5_groupLike_30
    · have hF := if_f hF hc
      refine aw_aload_n hK 0 rfl dX5_groupLike_7 ?_
      refine aw_aload_n hK 0 rfl dX5_groupLike_8 ?_
      refine gf_5_12 hK rfl (35) rfl (List.mem_of_getElem? (i := 1) rfl) dX5_groupLike_9 ?_
      refine aw_iload_n hK 3 rfl dX5_groupLike_12 ?_
      obtain ⟨g1, hF⟩ := gd_some hF
      refine aw_iald hK rfl g1 dX5_groupLike_13 ?_
      refine aw_iload_n hK 1 rfl dX5_groupLike_14 ?_
      obtain ⟨r4, m3, h2, hF⟩ := cal_some hF
      refine aw_cv hK 5 (as := [q_i (m 35 (ix x3)), q_i x1]) (tr_X5_areAlike h2) gX5_groupLike_X5_areAlike rfl rfl rfl (by decide) (na := 2) (by decide +kernel) rfl ⟨by decide, by decide⟩ (Nat.zero_le _) (Nat.le_of_ble_eq_true rfl) dX5_groupLike_15 ?_
      refine aw_if_eq hK 23 rfl dX5_groupLike_18 (fun hc => ?_) (fun hc => ?_)
      · have hF := if_t hF hc
        obtain ⟨y5, hy5, hF⟩ := bnd_some hF
        refine aw_iinc hK (cz := 1) 3 [(3, q_i y5), (0, q_r 20), (1, q_i x1), (2, q_i x2)] (by decide) rfl rfl hy5 rfl dX5_groupLike_23 ?_
        refine aw_goto hK 2 rfl dX5_groupLike_26 ?_
        refine aw_sub [1, 2, 3, 0] (lv' := [(0, q_r 20), (1, q_i x1), (2, q_i x2), (3, q_i y5)]) rfl ?_
        exact hrec_2 hF
      · have hF := if_f hF hc
        refine aw_iload_n hK 3 rfl dX5_groupLike_21 ?_
        obtain ⟨rfl, rfl⟩ := so_inj hF
        exact aw_iret hK hR rfl dX5_groupLike_22
def F_X5_groupLike (N : Nat) (m : Mem) (x1 : Int32) (x2 : Int32) : Option (Int32 × Mem) :=
  L_X5_groupLike_2 N N m x1 x2 (0 : Int32)
set_option maxRecDepth 100000 in
set_option maxHeartbeats 4000000 in
theorem tr_X5_groupLike {N : Nat} {m m' : Mem} {r : Int32} {x1 : Int32} {x2 : Int32} (hF : F_X5_groupLike N m x1 x2 = some (r, m')) : Tr yX5_groupLike wsX5_groupLike 2 46 [q_r 20, q_i x1, q_i x2] m (some r) m' := by
  refine tr_of (bytes := cX5_groupLike) (maxL := 4) (ret := (some .int)) (by decide) rfl (Nat.le_of_ble_eq_true rfl) (fun K hK hR => ?_)
  have hK : KOK K cX5_groupLike 4 RX5 wsX5_groupLike 2 0 46 := hK
  show AW K 0 0 [(0, q_r 20), (1, q_i x1), (2, q_i x2)] [] m
  unfold F_X5_groupLike at hF
  refine aw_iconst hK (0) rfl dX5_groupLike_0 ?_
  refine aw_istore_n hK [(3, q_i (0 : Int32)), (0, q_r 20), (1, q_i x1), (2, q_i x2)] (by decide) rfl dX5_groupLike_1 ?_
  refine aw_sub [1, 2, 3, 0] (lv' := [(0, q_r 20), (1, q_i x1), (2, q_i x2), (3, q_i (0 : Int32))]) rfl ?_
  exact lp_X5_groupLike_2 hK hR _ hF
def B_X5_splitGroups_66 (N : Nat) (rec_4 : Mem → Int32 → Int32 → Option (Int32 × Mem)) (m : Mem) (x1 : Int32) (x2 : Int32) : Option (Int32 × Mem) :=
  bnd (x2 + (1 : Int32)) fun y22 =>
  rec_4 m x1 y22
set_option maxRecDepth 100000 in
set_option maxHeartbeats 4000000 in
theorem bk_X5_splitGroups_66 {N : Nat} {K : KT} {m' : Mem} {rec_4 : Mem → Int32 → Int32 → Option (Int32 × Mem)} {r : Int32} (hK : KOK K cX5_splitGroups 4 RX5 wsX5_splitGroups 3 0 69) (hR : KRet K (some .int) (some r) m') (hrec_4 : ∀ {m : Mem} {x1 : Int32} {x2 : Int32}, rec_4 m x1 x2 = some (r, m') → AW K 0 4 [(0, q_r 20), (1, q_i x1), (2, q_i x2)] [] m) {m : Mem} {x1 : Int32} {x2 : Int32} (hF : B_X5_splitGroups_66 N rec_4 m x1 x2 = some (r, m')) : AW K 0 66 [(0, q_r 20), (1, q_i x1), (2, q_i x2)] [] m := by
  unfold B_X5_splitGroups_66 at hF
  obtain ⟨y22, hy22, hF⟩ := bnd_some hF
  refine aw_iinc hK (cz := 1) 2 [(2, q_i y22), (0, q_r 20), (1, q_i x1)] (by decide) rfl rfl hy22 rfl dX5_splitGroups_66 ?_
  refine aw_goto hK 4 rfl dX5_splitGroups_69 ?_
  refine aw_sub [1, 2, 0] (lv' := [(0, q_r 20), (1, q_i x1), (2, q_i y22)]) rfl ?_
  exact hrec_4 hF
def B_X5_splitGroups_59 (N : Nat) (rec_4 : Mem → Int32 → Int32 → Option (Int32 × Mem)) (m : Mem) (x1 : Int32) (x2 : Int32) (x3 : Int32) : Option (Int32 × Mem) :=
  bnd (ix (m 20 11)) fun q18 => gd (knd q18 == 10) <|
  gd (inb x2 (alen q18)) <|
  bnd (mup m q18 (ix x2) x3) fun m21 =>
  B_X5_splitGroups_66 N rec_4 m21 x1 x2
set_option maxRecDepth 100000 in
set_option maxHeartbeats 4000000 in
theorem bk_X5_splitGroups_59 {N : Nat} {K : KT} {m' : Mem} {rec_4 : Mem → Int32 → Int32 → Option (Int32 × Mem)} {r : Int32} (hK : KOK K cX5_splitGroups 4 RX5 wsX5_splitGroups 3 0 69) (hR : KRet K (some .int) (some r) m') (hrec_4 : ∀ {m : Mem} {x1 : Int32} {x2 : Int32}, rec_4 m x1 x2 = some (r, m') → AW K 0 4 [(0, q_r 20), (1, q_i x1), (2, q_i x2)] [] m) {m : Mem} {x1 : Int32} {x2 : Int32} {x3 : Int32} (hF : B_X5_splitGroups_59 N rec_4 m x1 x2 x3 = some (r, m')) : AW K 0 59 [(0, q_r 20), (1, q_i x1), (2, q_i x2), (3, q_i x3)] [] m := by
  unfold B_X5_splitGroups_59 at hF
  refine aw_aload_n hK 0 rfl dX5_splitGroups_59 ?_
  refine gf_5_11 hK rfl (List.mem_of_getElem? (i := 2) rfl) dX5_splitGroups_60 ?_
  obtain ⟨q18, hq18, hF⟩ := bnd_some hF
  obtain ⟨g19, hF⟩ := gd_some hF
  refine aw_nr hq18 ?_
  refine aw_iload_n hK 2 rfl dX5_splitGroups_63 ?_
  refine aw_iload_n hK 3 rfl dX5_splitGroups_64 ?_
  obtain ⟨g20, hF⟩ := gd_some hF
  refine aw_iast hK (eq_of_beq g19) g20 dX5_splitGroups_65 ?_
  obtain ⟨m21, hm21, hF⟩ := bnd_some hF
  refine aw_mm hm21 ?_
  refine aw_sub [0, 1, 2] (lv' := [(0, q_r 20), (1, q_i x1), (2, q_i x2)]) rfl ?_
  exact bk_X5_splitGroups_66 hK hR hrec_4 hF
def S_X5_splitGroups_4 (N : Nat) (rec_4 : Mem → Int32 → Int32 → Option (Int32 × Mem)) (m : Mem) (x1 : Int32) (x2 : Int32) : Option (Int32 × Mem) :=
  if (m 20 8) ≤ x2 then (
    bnd (ix (m 20 10)) fun q1 => gd (knd q1 == 10) <|
    bnd (ix (m 20 11)) fun q3 => gd (knd q3 == 10) <|
    bnd (mup m 20 10 (nI q3)) fun m5 =>
    bnd (mup m5 20 11 (nI q1)) fun m6 =>
    some (x1, m6)
  ) else (
    bnd (ix (m 20 11)) fun q7 => gd (knd q7 == 10) <|
    gd (inb x2 (alen q7)) <|
    bnd (mup m q7 (ix x2) (-1 : Int32)) fun m10 =>
    gd (inb x2 (alen 32)) <|
    if (m10 32 (ix x2)) = (0 : Int32) then (
      B_X5_splitGroups_66 N rec_4 m10 x1 x2
    ) else (
      cal (F_X5_groupLike N m10 x2 x1) fun r14 m13 =>
      if r14 = x1 then (
        if x1 < (32 : Int32) then (
          gd (inb x1 (alen 35)) <|
          bnd (mup m13 35 (ix x1) x2) fun m16 =>
          bnd (x1 + (1 : Int32)) fun y17 =>
          B_X5_splitGroups_59 N rec_4 m16 y17 x2 r14
        ) else (
          some ((33 : Int32), m13)
        )
      ) else (
        B_X5_splitGroups_59 N rec_4 m13 x1 x2 r14
      )
    )
  )
def L_X5_splitGroups_4 (N : Nat) : Nat → Mem → Int32 → Int32 → Option (Int32 × Mem)
  | 0 => fun _ _ _ => none
  | f + 1 => S_X5_splitGroups_4 N (L_X5_splitGroups_4 N f)
set_option maxRecDepth 100000 in
set_option maxHeartbeats 4000000 in
theorem lp_X5_splitGroups_4 {N : Nat} {K : KT} {m' : Mem} {r : Int32} (hK : KOK K cX5_splitGroups 4 RX5 wsX5_splitGroups 3 0 69) (hR : KRet K (some .int) (some r) m') : ∀ (f : Nat) {m : Mem} {x1 : Int32} {x2 : Int32}, L_X5_splitGroups_4 N f m x1 x2 = some (r, m') → AW K 0 4 [(0, q_r 20), (1, q_i x1), (2, q_i x2)] [] m := by
  intro f
  induction f with
  | zero => intro m x1 x2 hF; cases hF
  | succ f hrec_4 =>
    intro m x1 x2 hF
    have hF : S_X5_splitGroups_4 N (L_X5_splitGroups_4 N f) m x1 x2 = some (r, m') := hF
    unfold S_X5_splitGroups_4 at hF
    refine aw_iload_n hK 2 rfl dX5_splitGroups_4 ?_
    refine aw_aload_n hK 0 rfl dX5_splitGroups_5 ?_
    refine gf_5_8 hK rfl (List.mem_of_getElem? (i := 1) rfl) dX5_splitGroups_6 ?_
    refine aw_icmp_ge hK 72 rfl dX5_splitGroups_9 (fun hc => ?_) (fun hc => ?_)
    · have hF := if_t hF hc
      refine aw_aload_n hK 0 rfl dX5_splitGroups_72 ?_
      refine gf_5_10 hK rfl (List.mem_of_getElem? (i := 5) rfl) dX5_splitGroups_73 ?_
      obtain ⟨q1, hq1, hF⟩ := bnd_some hF
      obtain ⟨g2, hF⟩ := gd_some hF
      refine aw_nr hq1 ?_
      refine aw_astore_n hK [(2, q_r q1), (0, q_r 20), (1, q_i x1)] (by decide) rfl dX5_splitGroups_76 ?_
      refine aw_aload_n hK 1 rfl dX5_splitGroups_77 ?_
      refine aw_aload_n hK 1 rfl dX5_splitGroups_78 ?_
      refine gf_5_11 hK rfl (List.mem_of_getElem? (i := 2) rfl) dX5_splitGroups_79 ?_
      obtain ⟨q3, hq3, hF⟩ := bnd_some hF
      obtain ⟨g4, hF⟩ := gd_some hF
      refine aw_nr hq3 ?_
      refine pf_5_10 hK rfl (knd_lt (by rw [(eq_of_beq g4)]; decide)) (List.mem_of_getElem? (i := 5) rfl) dX5_splitGroups_82 ?_
      obtain ⟨m5, hm5, hF⟩ := bnd_some hF
      refine aw_mm hm5 ?_
      refine aw_aload_n hK 1 rfl dX5_splitGroups_85 ?_
      refine aw_aload_n hK 0 rfl dX5_splitGroups_86 ?_
      refine pf_5_11 hK rfl (knd_lt (by rw [(eq_of_beq g2)]; decide)) (List.mem_of_getElem? (i := 2) rfl) dX5_splitGroups_87 ?_
      obtain ⟨m6, hm6, hF⟩ := bnd_some hF
      refine aw_mm hm6 ?_
      refine aw_iload_n hK 2 rfl dX5_splitGroups_90 ?_
      obtain ⟨rfl, rfl⟩ := so_inj hF
      exact aw_iret hK hR rfl dX5_splitGroups_91
    · have hF := if_f hF hc
      refine aw_aload_n hK 0 rfl dX5_splitGroups_12 ?_
      refine gf_5_11 hK rfl (List.mem_of_getElem? (i := 2) rfl) dX5_splitGroups_13 ?_
      obtain ⟨q7, hq7, hF⟩ := bnd_some hF
      obtain ⟨g8, hF⟩ := gd_some hF
      refine aw_nr hq7 ?_
      refine aw_iload_n hK 2 rfl dX5_splitGroups_16 ?_
      refine aw_iconst hK (-1) rfl dX5_splitGroups_17 ?_
      obtain ⟨g9, hF⟩ := gd_some hF
      refine aw_iast hK (eq_of_beq g8) g9 dX5_splitGroups_18 ?_
      obtain ⟨m10, hm10, hF⟩ := bnd_some hF
      refine aw_mm hm10 ?_
      refine aw_aload_n hK 0 rfl dX5_splitGroups_19 ?_
      refine gf_5_9 hK rfl (32) rfl (List.mem_of_getElem? (i := 3) rfl) dX5_splitGroups_20 ?_
      refine aw_iload_n hK 2 rfl dX5_splitGroups_23 ?_
      obtain ⟨g11, hF⟩ := gd_some hF
      refine aw_zald hK rfl g11 dX5_splitGroups_24 ?_
      refine aw_if_eq hK 66 rfl dX5_splitGroups_25 (fun hc => ?_) (fun hc => ?_)
      · have hF := if_t hF hc
        refine aw_sub [0, 1, 2] (lv' := [(0, q_r 20), (1, q_i x1), (2, q_i x2)]) rfl ?_
        exact bk_X5_splitGroups_66 hK hR hrec_4 hF
      · have hF := if_f hF hc
        refine aw_aload_n hK 0 rfl dX5_splitGroups_28 ?_
        refine aw_iload_n hK 2 rfl dX5_splitGroups_29 ?_
        refine aw_iload_n hK 1 rfl dX5_splitGroups_30 ?_
        obtain ⟨r14, m13, h12, hF⟩ := cal_some hF
        refine aw_cv hK 5 (as := [q_i x2, q_i x1]) (tr_X5_groupLike h12) gX5_splitGroups_X5_groupLike rfl rfl rfl (by decide) (na := 2) (by decide +kernel) rfl ⟨by decide, by decide⟩ (Nat.zero_le _) (Nat.le_of_ble_eq_true rfl) dX5_splitGroups_31 ?_
        refine aw_istore_n hK [(3, q_i r14), (0, q_r 20), (1, q_i x1), (2, q_i x2)] (by decide) rfl dX5_splitGroups_34 ?_
        refine aw_iload_n hK 0 rfl dX5_splitGroups_35 ?_
        refine aw_iload_n hK 2 rfl dX5_splitGroups_36 ?_
        refine aw_icmp_ne hK 59 rfl dX5_splitGroups_37 (fun hc => ?_) (fun hc => ?_)
        · have hF := if_f hF hc
          refine aw_sub [1, 2, 3, 0] (lv' := [(0, q_r 20), (1, q_i x1), (2, q_i x2), (3, q_i r14)]) rfl ?_
          exact bk_X5_splitGroups_59 hK hR hrec_4 hF
        · have hF := if_t hF hc
          refine aw_iload_n hK 2 rfl dX5_splitGroups_40 ?_
          refine aw_bipush hK (32) rfl dX5_splitGroups_41 ?_
          refine aw_icmp_lt hK 49 rfl dX5_splitGroups_43 (fun hc => ?_) (fun hc => ?_)
          · have hF := if_t hF hc
            refine aw_aload_n hK 1 rfl dX5_splitGroups_49 ?_
            refine gf_5_12 hK rfl (35) rfl (List.mem_of_getElem? (i := 4) rfl) dX5_splitGroups_50 ?_
            refine aw_iload_n hK 2 rfl dX5_splitGroups_53 ?_
            refine aw_iload_n hK 3 rfl dX5_splitGroups_54 ?_
            obtain ⟨g15, hF⟩ := gd_some hF
            refine aw_iast hK rfl g15 dX5_splitGroups_55 ?_
            obtain ⟨m16, hm16, hF⟩ := bnd_some hF
            refine aw_mm hm16 ?_
            obtain ⟨y17, hy17, hF⟩ := bnd_some hF
            refine aw_iinc hK (cz := 1) 2 [(1, q_i y17), (3, q_i r14), (0, q_r 20), (2, q_i x2)] (by decide) rfl rfl hy17 rfl dX5_splitGroups_56 ?_
            refine aw_sub [2, 0, 3, 1] (lv' := [(0, q_r 20), (1, q_i y17), (2, q_i x2), (3, q_i r14)]) rfl ?_
            exact bk_X5_splitGroups_59 hK hR hrec_4 hF
          · have hF := if_f hF hc
            refine aw_bipush hK (33) rfl dX5_splitGroups_46 ?_
            obtain ⟨rfl, rfl⟩ := so_inj hF
            exact aw_iret hK hR rfl dX5_splitGroups_48
def F_X5_splitGroups (N : Nat) (m : Mem) : Option (Int32 × Mem) :=
  L_X5_splitGroups_4 N N m (0 : Int32) (0 : Int32)
set_option maxRecDepth 100000 in
set_option maxHeartbeats 4000000 in
theorem tr_X5_splitGroups {N : Nat} {m m' : Mem} {r : Int32} (hF : F_X5_splitGroups N m = some (r, m')) : Tr yX5_splitGroups wsX5_splitGroups 3 69 [q_r 20] m (some r) m' := by
  refine tr_of (bytes := cX5_splitGroups) (maxL := 4) (ret := (some .int)) (by decide) rfl (Nat.le_of_ble_eq_true rfl) (fun K hK hR => ?_)
  have hK : KOK K cX5_splitGroups 4 RX5 wsX5_splitGroups 3 0 69 := hK
  show AW K 0 0 [(0, q_r 20)] [] m
  unfold F_X5_splitGroups at hF
  refine aw_iconst hK (0) rfl dX5_splitGroups_0 ?_
  refine aw_istore_n hK [(1, q_i (0 : Int32)), (0, q_r 20)] (by decide) rfl dX5_splitGroups_1 ?_
  refine aw_iconst hK (0) rfl dX5_splitGroups_2 ?_
  refine aw_istore_n hK [(2, q_i (0 : Int32)), (1, q_i (0 : Int32)), (0, q_r 20)] (by decide) rfl dX5_splitGroups_3 ?_
  refine aw_sub [2, 1, 0] (lv' := [(0, q_r 20), (1, q_i (0 : Int32)), (2, q_i (0 : Int32))]) rfl ?_
  exact lp_X5_splitGroups_4 hK hR _ hF
def B_X5_groupAlike_74 (N : Nat) (m : Mem) (x3 : Int32) : Option (Int32 × Mem) :=
  some (x3, m)
set_option maxRecDepth 100000 in
set_option maxHeartbeats 4000000 in
theorem bk_X5_groupAlike_74 {N : Nat} {K : KT} {m' : Mem} {r : Int32} (hK : KOK K cX5_groupAlike 4 RX5 wsX5_groupAlike 4 0 92) (hR : KRet K (some .int) (some r) m') {m : Mem} {x3 : Int32} (hF : B_X5_groupAlike_74 N m x3 = some (r, m')) : AW K 0 74 [(3, q_i x3)] [] m := by
  unfold B_X5_groupAlike_74 at hF
  refine aw_iload_n hK 0 rfl dX5_groupAlike_74 ?_
  obtain ⟨rfl, rfl⟩ := so_inj hF
  exact aw_iret hK hR rfl dX5_groupAlike_75
def S_X5_groupAlike_52 (N : Nat) (rec_52 : Mem → Int32 → Int32 → Option (Int32 × Mem)) (m : Mem) (x1 : Int32) (x2 : Int32) : Option (Int32 × Mem) :=
  if (33 : Int32) < x2 then (
    some (x1, m)
  ) else (
    cal (F_X5_splitGroups N m) fun r12 m11 =>
    if r12 = x1 then (
      B_X5_groupAlike_74 N m11 r12
    ) else (
      if r12 ≤ (32 : Int32) then (
        bnd (x2 + (1 : Int32)) fun y13 =>
        rec_52 m11 r12 y13
      ) else (
        B_X5_groupAlike_74 N m11 r12
      )
    )
  )
def L_X5_groupAlike_52 (N : Nat) : Nat → Mem → Int32 → Int32 → Option (Int32 × Mem)
  | 0 => fun _ _ _ => none
  | f + 1 => S_X5_groupAlike_52 N (L_X5_groupAlike_52 N f)
set_option maxRecDepth 100000 in
set_option maxHeartbeats 4000000 in
theorem lp_X5_groupAlike_52 {N : Nat} {K : KT} {m' : Mem} {r : Int32} (hK : KOK K cX5_groupAlike 4 RX5 wsX5_groupAlike 4 0 92) (hR : KRet K (some .int) (some r) m') : ∀ (f : Nat) {m : Mem} {x1 : Int32} {x2 : Int32}, L_X5_groupAlike_52 N f m x1 x2 = some (r, m') → AW K 0 52 [(0, q_r 20), (1, q_i x1), (2, q_i x2)] [] m := by
  intro f
  induction f with
  | zero => intro m x1 x2 hF; cases hF
  | succ f hrec_52 =>
    intro m x1 x2 hF
    have hF : S_X5_groupAlike_52 N (L_X5_groupAlike_52 N f) m x1 x2 = some (r, m') := hF
    unfold S_X5_groupAlike_52 at hF
    refine aw_iload_n hK 2 rfl dX5_groupAlike_52 ?_
    refine aw_bipush hK (33) rfl dX5_groupAlike_53 ?_
    refine aw_icmp_gt hK 84 rfl dX5_groupAlike_55 (fun hc => ?_) (fun hc => ?_)
    · have hF := if_t hF hc
      refine aw_iload_n hK 1 rfl dX5_groupAlike_84 ?_
      obtain ⟨rfl, rfl⟩ := so_inj hF
      exact aw_iret hK hR rfl dX5_groupAlike_85
    · have hF := if_f hF hc
      refine aw_aload_n hK 0 rfl dX5_groupAlike_58 ?_
      obtain ⟨r12, m11, h10, hF⟩ := cal_some hF
      refine aw_cv hK 5 (as := []) (tr_X5_splitGroups h10) gX5_groupAlike_X5_splitGroups rfl rfl rfl (by decide) (na := 0) (by decide +kernel) rfl ⟨by decide, by decide⟩ (Nat.zero_le _) (Nat.le_of_ble_eq_true rfl) dX5_groupAlike_59 ?_
      refine aw_istore_n hK [(3, q_i r12), (0, q_r 20), (1, q_i x1), (2, q_i x2)] (by decide) rfl dX5_groupAlike_62 ?_
      refine aw_iload_n hK 0 rfl dX5_groupAlike_63 ?_
      refine aw_iload_n hK 2 rfl dX5_groupAlike_64 ?_
      refine aw_icmp_eq hK 74 rfl dX5_groupAlike_65 (fun hc => ?_) (fun hc => ?_)
      · have hF := if_t hF hc
        refine aw_sub [0] (lv' := [(3, q_i r12)]) rfl ?_
        exact bk_X5_groupAlike_74 hK hR hF
      · have hF := if_f hF hc
        refine aw_iload_n hK 0 rfl dX5_groupAlike_68 ?_
        refine aw_bipush hK (32) rfl dX5_groupAlike_69 ?_
        refine aw_icmp_le hK 76 rfl dX5_groupAlike_71 (fun hc => ?_) (fun hc => ?_)
        · have hF := if_t hF hc
          refine aw_iload_n hK 0 rfl dX5_groupAlike_76 ?_
          refine aw_istore_n hK [(1, q_i r12), (3, q_i r12), (0, q_r 20), (2, q_i x2)] (by decide) rfl dX5_groupAlike_77 ?_
          obtain ⟨y13, hy13, hF⟩ := bnd_some hF
          refine aw_iinc hK (cz := 1) 3 [(2, q_i y13), (1, q_i r12), (3, q_i r12), (0, q_r 20)] (by decide) rfl rfl hy13 rfl dX5_groupAlike_78 ?_
          refine aw_goto hK 52 rfl dX5_groupAlike_81 ?_
          refine aw_sub [3, 1, 0] (lv' := [(0, q_r 20), (1, q_i r12), (2, q_i y13)]) rfl ?_
          exact hrec_52 hF
        · have hF := if_f hF hc
          refine aw_sub [0] (lv' := [(3, q_i r12)]) rfl ?_
          exact bk_X5_groupAlike_74 hK hR hF
def B_X5_groupAlike_41 (N : Nat) (rec_2 : Mem → Int32 → Option (Int32 × Mem)) (m : Mem) (x1 : Int32) (s0 : Int32) (s1 : Int32) (b2 : Nat) : Option (Int32 × Mem) :=
  gd (inb s1 (alen b2)) <|
  bnd (mup m b2 (ix s1) s0) fun m8 =>
  bnd (x1 + (1 : Int32)) fun y9 =>
  rec_2 m8 y9
set_option maxRecDepth 100000 in
set_option maxHeartbeats 4000000 in
theorem bk_X5_groupAlike_41 {N : Nat} {K : KT} {m' : Mem} {rec_2 : Mem → Int32 → Option (Int32 × Mem)} {r : Int32} (hK : KOK K cX5_groupAlike 4 RX5 wsX5_groupAlike 4 0 92) (hR : KRet K (some .int) (some r) m') (hrec_2 : ∀ {m : Mem} {x1 : Int32}, rec_2 m x1 = some (r, m') → AW K 0 2 [(0, q_r 20), (1, q_i x1)] [] m) {m : Mem} {x1 : Int32} {s0 : Int32} {s1 : Int32} {b2 : Nat} (hb2 : knd b2 = 10) (hF : B_X5_groupAlike_41 N rec_2 m x1 s0 s1 b2 = some (r, m')) : AW K 0 41 [(0, q_r 20), (1, q_i x1)] [q_i s0, q_i s1, q_r b2] m := by
  unfold B_X5_groupAlike_41 at hF
  obtain ⟨g7, hF⟩ := gd_some hF
  refine aw_iast hK hb2 g7 dX5_groupAlike_41 ?_
  obtain ⟨m8, hm8, hF⟩ := bnd_some hF
  refine aw_mm hm8 ?_
  obtain ⟨y9, hy9, hF⟩ := bnd_some hF
  refine aw_iinc hK (cz := 1) 1 [(1, q_i y9), (0, q_r 20)] (by decide) rfl rfl hy9 rfl dX5_groupAlike_42 ?_
  refine aw_goto hK 2 rfl dX5_groupAlike_45 ?_
  refine aw_sub [1, 0] (lv' := [(0, q_r 20), (1, q_i y9)]) rfl ?_
  exact hrec_2 hF
def S_X5_groupAlike_2 (N : Nat) (rec_2 : Mem → Int32 → Option (Int32 × Mem)) (m : Mem) (x1 : Int32) : Option (Int32 × Mem) :=
  if (m 20 8) ≤ x1 then (
    L_X5_groupAlike_52 N N m (0 : Int32) (0 : Int32)
  ) else (
    bnd (ix (m 20 10)) fun q1 => gd (knd q1 == 10) <|
    gd (inb x1 (alen 32)) <|
    if (m 32 (ix x1)) = (0 : Int32) then (
      B_X5_groupAlike_41 N rec_2 m x1 (-1 : Int32) x1 q1
    ) else (
      cal (F_X5_isWanted N m x1) fun r6 m5 =>
      if r6 = (0 : Int32) then (
        B_X5_groupAlike_41 N rec_2 m5 x1 (0 : Int32) x1 q1
      ) else (
        B_X5_groupAlike_41 N rec_2 m5 x1 (1 : Int32) x1 q1
      )
    )
  )
def L_X5_groupAlike_2 (N : Nat) : Nat → Mem → Int32 → Option (Int32 × Mem)
  | 0 => fun _ _ => none
  | f + 1 => S_X5_groupAlike_2 N (L_X5_groupAlike_2 N f)
set_option maxRecDepth 100000 in
set_option maxHeartbeats 4000000 in
theorem lp_X5_groupAlike_2 {N : Nat} {K : KT} {m' : Mem} {r : Int32} (hK : KOK K cX5_groupAlike 4 RX5 wsX5_groupAlike 4 0 92) (hR : KRet K (some .int) (some r) m') : ∀ (f : Nat) {m : Mem} {x1 : Int32}, L_X5_groupAlike_2 N f m x1 = some (r, m') → AW K 0 2 [(0, q_r 20), (1, q_i x1)] [] m := by
  intro f
  induction f with
  | zero => intro m x1 hF; cases hF
  | succ f hrec_2 =>
    intro m x1 hF
    have hF : S_X5_groupAlike_2 N (L_X5_groupAlike_2 N f) m x1 = some (r, m') := hF
    unfold S_X5_groupAlike_2 at hF
    refine aw_iload_n hK 1 rfl dX5_groupAlike_2 ?_
    refine aw_aload_n hK 0 rfl dX5_groupAlike_3 ?_
    refine gf_5_8 hK rfl (List.mem_of_getElem? (i := 1) rfl) dX5_groupAlike_4 ?_
    refine aw_icmp_ge hK 48 rfl dX5_groupAlike_7 (fun hc => ?_) (fun hc => ?_)
    · have hF := if_t hF hc
      refine aw_iconst hK (0) rfl dX5_groupAlike_48 ?_
      refine aw_istore_n hK [(1, q_i (0 : Int32)), (0, q_r 20)] (by decide) rfl dX5_groupAlike_49 ?_
      refine aw_iconst hK (0) rfl dX5_groupAlike_50 ?_
      refine aw_istore_n hK [(2, q_i (0 : Int32)), (1, q_i (0 : Int32)), (0, q_r 20)] (by decide) rfl dX5_groupAlike_51 ?_
      refine aw_sub [2, 1, 0] (lv' := [(0, q_r 20), (1, q_i (0 : Int32)), (2, q_i (0 : Int32))]) rfl ?_
      exact lp_X5_groupAlike_52 hK hR _ hF
    · have hF := if_f hF hc
      refine aw_aload_n hK 0 rfl dX5_groupAlike_10 ?_
      refine gf_5_10 hK rfl (List.mem_of_getElem? (i := 2) rfl) dX5_groupAlike_11 ?_
      obtain ⟨q1, hq1, hF⟩ := bnd_some hF
      obtain ⟨g2, hF⟩ := gd_some hF
      refine aw_nr hq1 ?_
      refine aw_iload_n hK 1 rfl dX5_groupAlike_14 ?_
      refine aw_aload_n hK 0 rfl dX5_groupAlike_15 ?_
      refine gf_5_9 hK rfl (32) rfl (List.mem_of_getElem? (i := 3) rfl) dX5_groupAlike_16 ?_
      refine aw_iload_n hK 1 rfl dX5_groupAlike_19 ?_
      obtain ⟨g3, hF⟩ := gd_some hF
      refine aw_zald hK rfl g3 dX5_groupAlike_20 ?_
      refine aw_if_ne hK 28 rfl dX5_groupAlike_21 (fun hc => ?_) (fun hc => ?_)
      · have hF := if_f hF hc
        refine aw_aload_n hK 0 rfl dX5_groupAlike_28 ?_
        refine aw_iload_n hK 1 rfl dX5_groupAlike_29 ?_
        obtain ⟨r6, m5, h4, hF⟩ := cal_some hF
        refine aw_cv hK 5 (as := [q_i x1]) (tr_X5_isWanted h4) gX5_groupAlike_X5_isWanted rfl rfl rfl (by decide) (na := 1) (by decide +kernel) rfl ⟨by decide, by decide⟩ (Nat.zero_le _) (Nat.le_of_ble_eq_true rfl) dX5_groupAlike_30 ?_
        refine aw_if_eq hK 40 rfl dX5_groupAlike_33 (fun hc => ?_) (fun hc => ?_)
        · have hF := if_t hF hc
          refine aw_iconst hK (0) rfl dX5_groupAlike_40 ?_
          refine aw_sub [0, 1] (lv' := [(0, q_r 20), (1, q_i x1)]) rfl ?_
          exact bk_X5_groupAlike_41 hK hR hrec_2 (eq_of_beq g2) hF
        · have hF := if_f hF hc
          refine aw_iconst hK (1) rfl dX5_groupAlike_36 ?_
          refine aw_goto hK 41 rfl dX5_groupAlike_37 ?_
          refine aw_sub [0, 1] (lv' := [(0, q_r 20), (1, q_i x1)]) rfl ?_
          exact bk_X5_groupAlike_41 hK hR hrec_2 (eq_of_beq g2) hF
      · have hF := if_t hF hc
        refine aw_iconst hK (-1) rfl dX5_groupAlike_24 ?_
        refine aw_goto hK 41 rfl dX5_groupAlike_25 ?_
        refine aw_sub [0, 1] (lv' := [(0, q_r 20), (1, q_i x1)]) rfl ?_
        exact bk_X5_groupAlike_41 hK hR hrec_2 (eq_of_beq g2) hF
def F_X5_groupAlike (N : Nat) (m : Mem) : Option (Int32 × Mem) :=
  L_X5_groupAlike_2 N N m (0 : Int32)
set_option maxRecDepth 100000 in
set_option maxHeartbeats 4000000 in
theorem tr_X5_groupAlike {N : Nat} {m m' : Mem} {r : Int32} (hF : F_X5_groupAlike N m = some (r, m')) : Tr yX5_groupAlike wsX5_groupAlike 4 92 [q_r 20] m (some r) m' := by
  refine tr_of (bytes := cX5_groupAlike) (maxL := 4) (ret := (some .int)) (by decide) rfl (Nat.le_of_ble_eq_true rfl) (fun K hK hR => ?_)
  have hK : KOK K cX5_groupAlike 4 RX5 wsX5_groupAlike 4 0 92 := hK
  show AW K 0 0 [(0, q_r 20)] [] m
  unfold F_X5_groupAlike at hF
  refine aw_iconst hK (0) rfl dX5_groupAlike_0 ?_
  refine aw_istore_n hK [(1, q_i (0 : Int32)), (0, q_r 20)] (by decide) rfl dX5_groupAlike_1 ?_
  refine aw_sub [1, 0] (lv' := [(0, q_r 20), (1, q_i (0 : Int32))]) rfl ?_
  exact lp_X5_groupAlike_2 hK hR _ hF
def B_X5_drawGroup_57 (N : Nat) (rec_23 : Mem → Int32 → Int32 → Int32 → Option Mem) (m : Mem) (x2 : Int32) (x3 : Int32) (x4 : Int32) : Option Mem :=
  bnd (x4 + (1 : Int32)) fun y13 =>
  rec_23 m x2 x3 y13
set_option maxRecDepth 100000 in
set_option maxHeartbeats 4000000 in
theorem bk_X5_drawGroup_57 {N : Nat} {K : KT} {m' : Mem} {rec_23 : Mem → Int32 → Int32 → Int32 → Option Mem} (hK : KOK K cX5_drawGroup 6 RX5 wsX5_drawGroup 2 0 48) (hR : KRet K none none m') (hrec_23 : ∀ {m : Mem} {x2 : Int32} {x3 : Int32} {x4 : Int32}, rec_23 m x2 x3 x4 = some m' → AW K 0 23 [(0, q_r 20), (1, q_r 3), (2, q_i x2), (3, q_i x3), (4, q_i x4)] [] m) {m : Mem} {x2 : Int32} {x3 : Int32} {x4 : Int32} (hF : B_X5_drawGroup_57 N rec_23 m x2 x3 x4 = some m') : AW K 0 57 [(0, q_r 20), (1, q_r 3), (2, q_i x2), (3, q_i x3), (4, q_i x4)] [] m := by
  unfold B_X5_drawGroup_57 at hF
  obtain ⟨y13, hy13, hF⟩ := bnd_some hF
  refine aw_iinc hK (cz := 1) 4 [(4, q_i y13), (0, q_r 20), (1, q_r 3), (2, q_i x2), (3, q_i x3)] (by decide) rfl rfl hy13 rfl dX5_drawGroup_57 ?_
  refine aw_goto hK 23 rfl dX5_drawGroup_60 ?_
  refine aw_sub [1, 2, 3, 4, 0] (lv' := [(0, q_r 20), (1, q_r 3), (2, q_i x2), (3, q_i x3), (4, q_i y13)]) rfl ?_
  exact hrec_23 hF
def S_X5_drawGroup_23 (N : Nat) (rec_23 : Mem → Int32 → Int32 → Int32 → Option Mem) (m : Mem) (x2 : Int32) (x3 : Int32) (x4 : Int32) : Option Mem :=
  if (8 : Int32) ≤ x4 then (
    some m
  ) else (
    cal (F_X5_groupBehind N m x3 x4) fun r10 m9 =>
    if r10 = (-1 : Int32) then (
      B_X5_drawGroup_57 N rec_23 m9 x2 x3 x4
    ) else (
      calv (F_X1_addArc N m9 x2 x4 x4 (0 : Int32) r10) fun m12 =>
      B_X5_drawGroup_57 N rec_23 m12 x2 x3 x4
    )
  )
def L_X5_drawGroup_23 (N : Nat) : Nat → Mem → Int32 → Int32 → Int32 → Option Mem
  | 0 => fun _ _ _ _ => none
  | f + 1 => S_X5_drawGroup_23 N (L_X5_drawGroup_23 N f)
set_option maxRecDepth 100000 in
set_option maxHeartbeats 4000000 in
theorem lp_X5_drawGroup_23 {N : Nat} {K : KT} {m' : Mem} (hK : KOK K cX5_drawGroup 6 RX5 wsX5_drawGroup 2 0 48) (hR : KRet K none none m') : ∀ (f : Nat) {m : Mem} {x2 : Int32} {x3 : Int32} {x4 : Int32}, L_X5_drawGroup_23 N f m x2 x3 x4 = some m' → AW K 0 23 [(0, q_r 20), (1, q_r 3), (2, q_i x2), (3, q_i x3), (4, q_i x4)] [] m := by
  intro f
  induction f with
  | zero => intro m x2 x3 x4 hF; cases hF
  | succ f hrec_23 =>
    intro m x2 x3 x4 hF
    have hF : S_X5_drawGroup_23 N (L_X5_drawGroup_23 N f) m x2 x3 x4 = some m' := hF
    unfold S_X5_drawGroup_23 at hF
    refine aw_iload hK 4 rfl dX5_drawGroup_23 ?_
    refine aw_bipush hK (8) rfl dX5_drawGroup_25 ?_
    refine aw_icmp_ge hK 63 rfl dX5_drawGroup_27 (fun hc => ?_) (fun hc => ?_)
    · have hF := if_t hF hc
      obtain rfl := Option.some.inj hF
      exact aw_vret hK hR dX5_drawGroup_63
    · have hF := if_f hF hc
      refine aw_aload_n hK 0 rfl dX5_drawGroup_30 ?_
      refine aw_iload_n hK 3 rfl dX5_drawGroup_31 ?_
      refine aw_iload hK 4 rfl dX5_drawGroup_32 ?_
      obtain ⟨r10, m9, h8, hF⟩ := cal_some hF
      refine aw_cv hK 5 (as := [q_i x3, q_i x4]) (tr_X5_groupBehind h8) gX5_drawGroup_X5_groupBehind rfl rfl rfl (by decide) (na := 2) (by decide +kernel) rfl ⟨by decide, by decide⟩ (Nat.zero_le _) (Nat.le_of_ble_eq_true rfl) dX5_drawGroup_34 ?_
      refine aw_istore hK [(5, q_i r10), (0, q_r 20), (1, q_r 3), (2, q_i x2), (3, q_i x3), (4, q_i x4)] (by decide) rfl dX5_drawGroup_37 ?_
      refine aw_iload hK 0 rfl dX5_drawGroup_39 ?_
      refine aw_iconst hK (-1) rfl dX5_drawGroup_41 ?_
      refine aw_icmp_eq hK 57 rfl dX5_drawGroup_42 (fun hc => ?_) (fun hc => ?_)
      · have hF := if_t hF hc
        refine aw_sub [1, 2, 3, 4, 5] (lv' := [(0, q_r 20), (1, q_r 3), (2, q_i x2), (3, q_i x3), (4, q_i x4)]) rfl ?_
        exact bk_X5_drawGroup_57 hK hR hrec_23 hF
      · have hF := if_f hF hc
        refine aw_aload_n hK 2 rfl dX5_drawGroup_45 ?_
        refine aw_iload_n hK 3 rfl dX5_drawGroup_46 ?_
        refine aw_iload hK 5 rfl dX5_drawGroup_47 ?_
        refine aw_iload hK 5 rfl dX5_drawGroup_49 ?_
        refine aw_iconst hK (0) rfl dX5_drawGroup_51 ?_
        refine aw_iload hK 0 rfl dX5_drawGroup_52 ?_
        obtain ⟨m12, h11, hF⟩ := calv_some hF
        refine aw_cv hK 1 (as := [q_i x2, q_i x4, q_i x4, q_i (0 : Int32), q_i r10]) (tr_X1_addArc h11) gX5_drawGroup_X1_addArc rfl rfl rfl (by decide) (na := 5) (by decide +kernel) rfl ⟨by decide, by decide⟩ (Nat.zero_le _) (Nat.le_of_ble_eq_true rfl) dX5_drawGroup_54 ?_
        refine aw_sub [1, 2, 3, 4, 5] (lv' := [(0, q_r 20), (1, q_r 3), (2, q_i x2), (3, q_i x3), (4, q_i x4)]) rfl ?_
        exact bk_X5_drawGroup_57 hK hR hrec_23 hF
def B_X5_drawGroup_20 (N : Nat) (m : Mem) (x2 : Int32) (x3 : Int32) : Option Mem :=
  L_X5_drawGroup_23 N N m x2 x3 (0 : Int32)
set_option maxRecDepth 100000 in
set_option maxHeartbeats 4000000 in
theorem bk_X5_drawGroup_20 {N : Nat} {K : KT} {m' : Mem} (hK : KOK K cX5_drawGroup 6 RX5 wsX5_drawGroup 2 0 48) (hR : KRet K none none m') {m : Mem} {x2 : Int32} {x3 : Int32} (hF : B_X5_drawGroup_20 N m x2 x3 = some m') : AW K 0 20 [(0, q_r 20), (1, q_r 3), (2, q_i x2), (3, q_i x3)] [] m := by
  unfold B_X5_drawGroup_20 at hF
  refine aw_iconst hK (0) rfl dX5_drawGroup_20 ?_
  refine aw_istore hK [(4, q_i (0 : Int32)), (0, q_r 20), (1, q_r 3), (2, q_i x2), (3, q_i x3)] (by decide) rfl dX5_drawGroup_21 ?_
  refine aw_sub [1, 2, 3, 4, 0] (lv' := [(0, q_r 20), (1, q_r 3), (2, q_i x2), (3, q_i x3), (4, q_i (0 : Int32))]) rfl ?_
  exact lp_X5_drawGroup_23 hK hR _ hF
def F_X5_drawGroup (N : Nat) (m : Mem) (x2 : Int32) : Option Mem :=
  gd (inb x2 (alen 35)) <|
  bnd (m 35 (ix x2)) fun y2 =>
  cal (F_X5_isWanted N m y2) fun r5 m4 =>
  if r5 = (0 : Int32) then (
    B_X5_drawGroup_20 N m4 x2 y2
  ) else (
    calv (F_X1_addEnd N m4 x2) fun m7 =>
    B_X5_drawGroup_20 N m7 x2 y2
  )
set_option maxRecDepth 100000 in
set_option maxHeartbeats 4000000 in
theorem tr_X5_drawGroup {N : Nat} {m m' : Mem} {x2 : Int32} (hF : F_X5_drawGroup N m x2 = some m') : Tr yX5_drawGroup wsX5_drawGroup 2 48 [q_r 20, q_r 3, q_i x2] m none m' := by
  refine tr_of (bytes := cX5_drawGroup) (maxL := 6) (ret := none) (by decide) rfl (Nat.le_of_ble_eq_true rfl) (fun K hK hR => ?_)
  have hK : KOK K cX5_drawGroup 6 RX5 wsX5_drawGroup 2 0 48 := hK
  show AW K 0 0 [(0, q_r 20), (1, q_r 3), (2, q_i x2)] [] m
  unfold F_X5_drawGroup at hF
  refine aw_aload_n hK 0 rfl dX5_drawGroup_0 ?_
  refine gf_5_12 hK rfl (35) rfl (List.mem_of_getElem? (i := 1) rfl) dX5_drawGroup_1 ?_
  refine aw_iload_n hK 2 rfl dX5_drawGroup_4 ?_
  obtain ⟨g1, hF⟩ := gd_some hF
  refine aw_iald hK rfl g1 dX5_drawGroup_5 ?_
  obtain ⟨y2, hy2, hF⟩ := bnd_some hF
  refine aw_nm hy2 ?_
  refine aw_istore_n hK [(3, q_i y2), (0, q_r 20), (1, q_r 3), (2, q_i x2)] (by decide) rfl dX5_drawGroup_6 ?_
  refine aw_aload_n hK 1 rfl dX5_drawGroup_7 ?_
  refine aw_iload_n hK 0 rfl dX5_drawGroup_8 ?_
  obtain ⟨r5, m4, h3, hF⟩ := cal_some hF
  refine aw_cv hK 5 (as := [q_i y2]) (tr_X5_isWanted h3) gX5_drawGroup_X5_isWanted rfl rfl rfl (by decide) (na := 1) (by decide +kernel) rfl ⟨by decide, by decide⟩ (Nat.zero_le _) (Nat.le_of_ble_eq_true rfl) dX5_drawGroup_9 ?_
  refine aw_if_eq hK 20 rfl dX5_drawGroup_12 (fun hc => ?_) (fun hc => ?_)
  · have hF := if_t hF hc
    refine aw_sub [1, 2, 3, 0] (lv' := [(0, q_r 20), (1, q_r 3), (2, q_i x2), (3, q_i y2)]) rfl ?_
    exact bk_X5_drawGroup_20 hK hR hF
  · have hF := if_f hF hc
    refine aw_aload_n hK 2 rfl dX5_drawGroup_15 ?_
    refine aw_iload_n hK 3 rfl dX5_drawGroup_16 ?_
    obtain ⟨m7, h6, hF⟩ := calv_some hF
    refine aw_cv hK 1 (as := [q_i x2]) (tr_X1_addEnd h6) gX5_drawGroup_X1_addEnd rfl rfl rfl (by decide) (na := 1) (by decide +kernel) rfl ⟨by decide, by decide⟩ (Nat.zero_le _) (Nat.le_of_ble_eq_true rfl) dX5_drawGroup_17 ?_
    refine aw_sub [1, 2, 3, 0] (lv' := [(0, q_r 20), (1, q_r 3), (2, q_i x2), (3, q_i y2)]) rfl ?_
    exact bk_X5_drawGroup_20 hK hR hF
def S_X5_draw_47 (N : Nat) (rec_47 : Mem → Int32 → Int32 → Option (Int32 × Mem)) (m : Mem) (x2 : Int32) (x3 : Int32) : Option (Int32 × Mem) :=
  if x2 ≤ x3 then (
    some ((1 : Int32), m)
  ) else (
    calv (F_X5_drawGroup N m x3) fun m15 =>
    bnd (x3 + (1 : Int32)) fun y16 =>
    rec_47 m15 x2 y16
  )
def L_X5_draw_47 (N : Nat) : Nat → Mem → Int32 → Int32 → Option (Int32 × Mem)
  | 0 => fun _ _ _ => none
  | f + 1 => S_X5_draw_47 N (L_X5_draw_47 N f)
set_option maxRecDepth 100000 in
set_option maxHeartbeats 4000000 in
theorem lp_X5_draw_47 {N : Nat} {K : KT} {m' : Mem} {r : Int32} (hK : KOK K cX5_draw 4 RX5 wsX5_draw 5 0 115) (hR : KRet K (some .boolean) (some r) m') : ∀ (f : Nat) {m : Mem} {x2 : Int32} {x3 : Int32}, L_X5_draw_47 N f m x2 x3 = some (r, m') → AW K 0 47 [(0, q_r 20), (1, q_r 3), (2, q_i x2), (3, q_i x3)] [] m := by
  intro f
  induction f with
  | zero => intro m x2 x3 hF; cases hF
  | succ f hrec_47 =>
    intro m x2 x3 hF
    have hF : S_X5_draw_47 N (L_X5_draw_47 N f) m x2 x3 = some (r, m') := hF
    unfold S_X5_draw_47 at hF
    refine aw_iload_n hK 3 rfl dX5_draw_47 ?_
    refine aw_iload_n hK 2 rfl dX5_draw_48 ?_
    refine aw_icmp_ge hK 64 rfl dX5_draw_49 (fun hc => ?_) (fun hc => ?_)
    · have hF := if_t hF hc
      refine aw_iconst hK (1) rfl dX5_draw_64 ?_
      obtain ⟨rfl, rfl⟩ := so_inj hF
      exact aw_iret hK hR rfl dX5_draw_65
    · have hF := if_f hF hc
      refine aw_aload_n hK 0 rfl dX5_draw_52 ?_
      refine aw_aload_n hK 1 rfl dX5_draw_53 ?_
      refine aw_iload_n hK 3 rfl dX5_draw_54 ?_
      obtain ⟨m15, h14, hF⟩ := calv_some hF
      refine aw_cv hK 5 (as := [q_r 3, q_i x3]) (tr_X5_drawGroup h14) gX5_draw_X5_drawGroup rfl rfl rfl (by decide) (na := 2) (by decide +kernel) rfl ⟨by decide, by decide⟩ (Nat.zero_le _) (Nat.le_of_ble_eq_true rfl) dX5_draw_55 ?_
      obtain ⟨y16, hy16, hF⟩ := bnd_some hF
      refine aw_iinc hK (cz := 1) 3 [(3, q_i y16), (0, q_r 20), (1, q_r 3), (2, q_i x2)] (by decide) rfl rfl hy16 rfl dX5_draw_58 ?_
      refine aw_goto hK 47 rfl dX5_draw_61 ?_
      refine aw_sub [1, 2, 3, 0] (lv' := [(0, q_r 20), (1, q_r 3), (2, q_i x2), (3, q_i y16)]) rfl ?_
      exact hrec_47 hF
def F_X5_draw (N : Nat) (m : Mem) : Option (Int32 × Mem) :=
  calv (F_X5_markUseful N m) fun m2 =>
  gd (inb (0 : Int32) (alen 32)) <|
  if (m2 32 (ix (0 : Int32))) = (0 : Int32) then (
    calv (F_X1_begin N m2 (1 : Int32) (0 : Int32)) fun m13 =>
    some ((1 : Int32), m13)
  ) else (
    cal (F_X5_groupAlike N m2) fun r6 m5 =>
    if r6 ≤ (32 : Int32) then (
      bnd (ix (m5 20 10)) fun q7 => gd (knd q7 == 10) <|
      gd (inb (0 : Int32) (alen q7)) <|
      calv (F_X1_begin N m5 r6 (m5 q7 (ix (0 : Int32)))) fun m11 =>
      L_X5_draw_47 N N m11 r6 (0 : Int32)
    ) else (
      some ((0 : Int32), m5)
    )
  )
set_option maxRecDepth 100000 in
set_option maxHeartbeats 4000000 in
theorem tr_X5_draw {N : Nat} {m m' : Mem} {r : Int32} (hF : F_X5_draw N m = some (r, m')) : Tr yX5_draw wsX5_draw 5 115 [q_r 20, q_r 3] m (some r) m' := by
  refine tr_of (bytes := cX5_draw) (maxL := 4) (ret := (some .boolean)) (by decide) rfl (Nat.le_of_ble_eq_true rfl) (fun K hK hR => ?_)
  have hK : KOK K cX5_draw 4 RX5 wsX5_draw 5 0 115 := hK
  show AW K 0 0 [(0, q_r 20), (1, q_r 3)] [] m
  unfold F_X5_draw at hF
  refine aw_aload_n hK 0 rfl dX5_draw_0 ?_
  obtain ⟨m2, h1, hF⟩ := calv_some hF
  refine aw_cv hK 5 (as := []) (tr_X5_markUseful h1) gX5_draw_X5_markUseful rfl rfl rfl (by decide) (na := 0) (by decide +kernel) rfl ⟨by decide, by decide⟩ (Nat.zero_le _) (Nat.le_of_ble_eq_true rfl) dX5_draw_1 ?_
  refine aw_aload_n hK 0 rfl dX5_draw_4 ?_
  refine gf_5_9 hK rfl (32) rfl (List.mem_of_getElem? (i := 1) rfl) dX5_draw_5 ?_
  refine aw_iconst hK (0) rfl dX5_draw_8 ?_
  obtain ⟨g3, hF⟩ := gd_some hF
  refine aw_zald hK rfl g3 dX5_draw_9 ?_
  refine aw_if_ne hK 21 rfl dX5_draw_10 (fun hc => ?_) (fun hc => ?_)
  · have hF := if_f hF hc
    refine aw_aload_n hK 0 rfl dX5_draw_21 ?_
    obtain ⟨r6, m5, h4, hF⟩ := cal_some hF
    refine aw_cv hK 5 (as := []) (tr_X5_groupAlike h4) gX5_draw_X5_groupAlike rfl rfl rfl (by decide) (na := 0) (by decide +kernel) rfl ⟨by decide, by decide⟩ (Nat.zero_le _) (Nat.le_of_ble_eq_true rfl) dX5_draw_22 ?_
    refine aw_istore_n hK [(2, q_i r6), (0, q_r 20), (1, q_r 3)] (by decide) rfl dX5_draw_25 ?_
    refine aw_iload_n hK 0 rfl dX5_draw_26 ?_
    refine aw_bipush hK (32) rfl dX5_draw_27 ?_
    refine aw_icmp_le hK 34 rfl dX5_draw_29 (fun hc => ?_) (fun hc => ?_)
    · have hF := if_t hF hc
      refine aw_aload_n hK 2 rfl dX5_draw_34 ?_
      refine aw_iload_n hK 0 rfl dX5_draw_35 ?_
      refine aw_aload_n hK 1 rfl dX5_draw_36 ?_
      refine gf_5_10 hK rfl (List.mem_of_getElem? (i := 2) rfl) dX5_draw_37 ?_
      obtain ⟨q7, hq7, hF⟩ := bnd_some hF
      obtain ⟨g8, hF⟩ := gd_some hF
      refine aw_nr hq7 ?_
      refine aw_iconst hK (0) rfl dX5_draw_40 ?_
      obtain ⟨g9, hF⟩ := gd_some hF
      refine aw_iald hK (eq_of_beq g8) g9 dX5_draw_41 ?_
      obtain ⟨m11, h10, hF⟩ := calv_some hF
      refine aw_cv hK 1 (as := [q_i r6, q_i (m5 q7 (ix (0 : Int32)))]) (tr_X1_begin h10) gX5_draw_X1_begin rfl rfl rfl (by decide) (na := 2) (by decide +kernel) rfl ⟨by decide, by decide⟩ (Nat.zero_le _) (Nat.le_of_ble_eq_true rfl) dX5_draw_42 ?_
      refine aw_iconst hK (0) rfl dX5_draw_45 ?_
      refine aw_istore_n hK [(3, q_i (0 : Int32)), (2, q_i r6), (0, q_r 20), (1, q_r 3)] (by decide) rfl dX5_draw_46 ?_
      refine aw_sub [2, 3, 1, 0] (lv' := [(0, q_r 20), (1, q_r 3), (2, q_i r6), (3, q_i (0 : Int32))]) rfl ?_
      exact lp_X5_draw_47 hK hR _ hF
    · have hF := if_f hF hc
      refine aw_iconst hK (0) rfl dX5_draw_32 ?_
      obtain ⟨rfl, rfl⟩ := so_inj hF
      exact aw_iret hK hR rfl dX5_draw_33
  · have hF := if_t hF hc
    refine aw_aload_n hK 1 rfl dX5_draw_13 ?_
    refine aw_iconst hK (1) rfl dX5_draw_14 ?_
    refine aw_iconst hK (0) rfl dX5_draw_15 ?_
    obtain ⟨m13, h12, hF⟩ := calv_some hF
    refine aw_cv hK 1 (as := [q_i (1 : Int32), q_i (0 : Int32)]) (tr_X1_begin h12) gX5_draw_X1_begin rfl rfl rfl (by decide) (na := 2) (by decide +kernel) rfl ⟨by decide, by decide⟩ (Nat.zero_le _) (Nat.le_of_ble_eq_true rfl) dX5_draw_16 ?_
    refine aw_iconst hK (1) rfl dX5_draw_19 ?_
    obtain ⟨rfl, rfl⟩ := so_inj hF
    exact aw_iret hK hR rfl dX5_draw_20
def F_X5_exploreTwo (N : Nat) (m : Mem) (a1 : Nat) (a2 : Nat) (x3 : Int32) : Option (Int32 × Mem) :=
  calv (F_X6_take N m 21 a1) fun m2 =>
  calv (F_X6_take N m2 24 a2) fun m4 =>
  bnd (mup m4 20 2 x3) fun m5 =>
  cal (F_X5_explore N m5) fun r8 m7 =>
  gd (isb r8) <|
  some (r8, m7)
set_option maxRecDepth 100000 in
set_option maxHeartbeats 4000000 in
theorem tr_X5_exploreTwo {N : Nat} {m m' : Mem} {r : Int32} {a1 : Nat} {a2 : Nat} {x3 : Int32} (hk1 : knd a1 = 3) (hk2 : knd a2 = 3) (hF : F_X5_exploreTwo N m a1 a2 x3 = some (r, m')) : Tr yX5_exploreTwo wsX5_exploreTwo 3 70 [q_r 20, q_r a1, q_r a2, q_i x3] m (some r) m' := by
  refine tr_of (bytes := cX5_exploreTwo) (maxL := 4) (ret := (some .boolean)) (by decide) rfl (Nat.le_of_ble_eq_true rfl) (fun K hK hR => ?_)
  have hK : KOK K cX5_exploreTwo 4 RX5 wsX5_exploreTwo 3 0 70 := hK
  show AW K 0 0 [(0, q_r 20), (1, q_r a1), (2, q_r a2), (3, q_i x3)] [] m
  unfold F_X5_exploreTwo at hF
  refine aw_aload_n hK 0 rfl dX5_exploreTwo_0 ?_
  refine gf_5_0 hK rfl (21) rfl (List.mem_of_getElem? (i := 1) rfl) dX5_exploreTwo_1 ?_
  refine aw_aload_n hK 1 rfl dX5_exploreTwo_4 ?_
  obtain ⟨m2, h1, hF⟩ := calv_some hF
  refine aw_cv hK 6 (as := [q_r a1]) (tr_X6_take rfl hk1 h1) gX5_exploreTwo_X6_take rfl rfl rfl (by decide) (na := 1) (by decide +kernel) rfl ⟨by decide, by decide⟩ (Nat.zero_le _) (Nat.le_of_ble_eq_true rfl) dX5_exploreTwo_5 ?_
  refine aw_aload_n hK 0 rfl dX5_exploreTwo_8 ?_
  refine gf_5_1 hK rfl (24) rfl (List.mem_of_getElem? (i := 2) rfl) dX5_exploreTwo_9 ?_
  refine aw_aload_n hK 2 rfl dX5_exploreTwo_12 ?_
  obtain ⟨m4, h3, hF⟩ := calv_some hF
  refine aw_cv hK 6 (as := [q_r a2]) (tr_X6_take rfl hk2 h3) gX5_exploreTwo_X6_take rfl rfl rfl (by decide) (na := 1) (by decide +kernel) rfl ⟨by decide, by decide⟩ (Nat.zero_le _) (Nat.le_of_ble_eq_true rfl) dX5_exploreTwo_13 ?_
  refine aw_aload_n hK 0 rfl dX5_exploreTwo_16 ?_
  refine aw_iload_n hK 3 rfl dX5_exploreTwo_17 ?_
  refine pf_5_2 hK rfl (List.mem_of_getElem? (i := 3) rfl) dX5_exploreTwo_18 ?_
  obtain ⟨m5, hm5, hF⟩ := bnd_some hF
  refine aw_mm hm5 ?_
  refine aw_aload_n hK 0 rfl dX5_exploreTwo_21 ?_
  obtain ⟨r8, m7, h6, hF⟩ := cal_some hF
  refine aw_cv hK 5 (as := []) (tr_X5_explore h6) gX5_exploreTwo_X5_explore rfl rfl rfl (by decide) (na := 0) (by decide +kernel) rfl ⟨by decide, by decide⟩ (Nat.zero_le _) (Nat.le_of_ble_eq_true rfl) dX5_exploreTwo_22 ?_
  obtain ⟨g9, hF⟩ := gd_some hF
  obtain ⟨rfl, rfl⟩ := so_inj hF
  exact aw_iret hK hR (isb_narrow g9) dX5_exploreTwo_25
def P_X7_isLetterOrAny (x0 : Int32) : Int32 :=
  if (P_X7_isLetter x0) = (0 : Int32) then (
    if x0 = (-1 : Int32) then (
      (1 : Int32)
    ) else (
      (0 : Int32)
    )
  ) else (
    (1 : Int32)
  )
def F_X7_isLetterOrAny (m : Mem) (x0 : Int32) : Option (Int32 × Mem) :=
  if (P_X7_isLetter x0) = (0 : Int32) then (
    if x0 = (-1 : Int32) then (
      some ((1 : Int32), m)
    ) else (
      some ((0 : Int32), m)
    )
  ) else (
    some ((1 : Int32), m)
  )
set_option maxRecDepth 100000 in
set_option maxHeartbeats 4000000 in
theorem tr_X7_isLetterOrAny {m m' : Mem} {r : Int32} {x0 : Int32} (hF : F_X7_isLetterOrAny m x0 = some (r, m')) : Tr yX7_isLetterOrAny wsX7_isLetterOrAny 1 20 [q_i x0] m (some r) m' := by
  refine tr_of (bytes := cX7_isLetterOrAny) (maxL := 1) (ret := (some .boolean)) (by decide) rfl (Nat.le_of_ble_eq_true rfl) (fun K hK hR => ?_)
  have hK : KOK K cX7_isLetterOrAny 1 RX7 wsX7_isLetterOrAny 1 0 20 := hK
  show AW K 0 0 [(0, q_i x0)] [] m
  unfold F_X7_isLetterOrAny at hF
  refine aw_iload_n hK 0 rfl dX7_isLetterOrAny_0 ?_
  refine aw_cs hK (as := [q_i x0]) (trp_X7_isLetter x0 _) gX7_isLetterOrAny_X7_isLetter rfl (na := 1) (by decide +kernel) rfl ⟨by decide, by decide⟩ (Nat.zero_le _) (Nat.le_of_ble_eq_true rfl) dX7_isLetterOrAny_1 ?_
  refine aw_if_ne hK 12 rfl dX7_isLetterOrAny_4 (fun hc => ?_) (fun hc => ?_)
  · have hF := if_f hF hc
    refine aw_iconst hK (1) rfl dX7_isLetterOrAny_12 ?_
    refine aw_goto hK 17 rfl dX7_isLetterOrAny_13 ?_
    obtain ⟨rfl, rfl⟩ := so_inj hF
    exact aw_iret hK hR rfl dX7_isLetterOrAny_17
  · have hF := if_t hF hc
    refine aw_iload_n hK 0 rfl dX7_isLetterOrAny_7 ?_
    refine aw_iconst hK (-1) rfl dX7_isLetterOrAny_8 ?_
    refine aw_icmp_ne hK 16 rfl dX7_isLetterOrAny_9 (fun hc => ?_) (fun hc => ?_)
    · have hF := if_f hF hc
      refine aw_iconst hK (0) rfl dX7_isLetterOrAny_16 ?_
      obtain ⟨rfl, rfl⟩ := so_inj hF
      exact aw_iret hK hR rfl dX7_isLetterOrAny_17
    · have hF := if_t hF hc
      refine aw_iconst hK (1) rfl dX7_isLetterOrAny_12 ?_
      refine aw_goto hK 17 rfl dX7_isLetterOrAny_13 ?_
      obtain ⟨rfl, rfl⟩ := so_inj hF
      exact aw_iret hK hR rfl dX7_isLetterOrAny_17
theorem pb_X7_isLetterOrAny (x0 : Int32) : isb (P_X7_isLetterOrAny x0) = true := by
  simp only [P_X7_isLetterOrAny]
  repeat (first | rfl | split)
theorem fp_X7_isLetterOrAny (m : Mem) (x0 : Int32) : F_X7_isLetterOrAny m x0 = some (P_X7_isLetterOrAny x0, m) := by
  simp only [F_X7_isLetterOrAny, P_X7_isLetterOrAny]
  repeat (first | rfl | split)
theorem trp_X7_isLetterOrAny (x0 : Int32) (m : Mem) : Tr yX7_isLetterOrAny wsX7_isLetterOrAny 1 20 [q_i x0] m (some (P_X7_isLetterOrAny x0)) m := tr_X7_isLetterOrAny (fp_X7_isLetterOrAny m x0)
def P_X7_ruleState (x0 : Int32) (x1 : Int32) : Int32 :=
  if x0 = (0 : Int32) then (
    (0 : Int32) + x1
  ) else (
    (3 : Int32) + x1
  )
def F_X7_ruleState (m : Mem) (x0 : Int32) (x1 : Int32) : Option (Int32 × Mem) :=
  if x0 = (0 : Int32) then (
    some ((0 : Int32) + x1, m)
  ) else (
    some ((3 : Int32) + x1, m)
  )
set_option maxRecDepth 100000 in
set_option maxHeartbeats 4000000 in
theorem tr_X7_ruleState {m m' : Mem} {r : Int32} {x0 : Int32} {x1 : Int32} (hF : F_X7_ruleState m x0 x1 = some (r, m')) : Tr yX7_ruleState wsX7_ruleState 0 0 [q_i x0, q_i x1] m (some r) m' := by
  refine tr_of (bytes := cX7_ruleState) (maxL := 2) (ret := (some .int)) (by decide) rfl (Nat.le_of_ble_eq_true rfl) (fun K hK hR => ?_)
  have hK : KOK K cX7_ruleState 2 RX7 wsX7_ruleState 0 0 0 := hK
  show AW K 0 0 [(0, q_i x0), (1, q_i x1)] [] m
  unfold F_X7_ruleState at hF
  refine aw_iload_n hK 0 rfl dX7_ruleState_0 ?_
  refine aw_if_eq hK 8 rfl dX7_ruleState_1 (fun hc => ?_) (fun hc => ?_)
  · have hF := if_t hF hc
    refine aw_iconst hK (0) rfl dX7_ruleState_8 ?_
    refine aw_iload_n hK 1 rfl dX7_ruleState_9 ?_
    refine aw_iadd hK dX7_ruleState_10 ?_
    obtain ⟨rfl, rfl⟩ := so_inj hF
    exact aw_iret hK hR rfl dX7_ruleState_11
  · have hF := if_f hF hc
    refine aw_iconst hK (3) rfl dX7_ruleState_4 ?_
    refine aw_goto hK 9 rfl dX7_ruleState_5 ?_
    refine aw_iload_n hK 1 rfl dX7_ruleState_9 ?_
    refine aw_iadd hK dX7_ruleState_10 ?_
    obtain ⟨rfl, rfl⟩ := so_inj hF
    exact aw_iret hK hR rfl dX7_ruleState_11
theorem fp_X7_ruleState (m : Mem) (x0 : Int32) (x1 : Int32) : F_X7_ruleState m x0 x1 = some (P_X7_ruleState x0 x1, m) := by
  simp only [F_X7_ruleState, P_X7_ruleState]
  repeat (first | rfl | split)
theorem trp_X7_ruleState (x0 : Int32) (x1 : Int32) (m : Mem) : Tr yX7_ruleState wsX7_ruleState 0 0 [q_i x0, q_i x1] m (some (P_X7_ruleState x0 x1)) m := tr_X7_ruleState (fp_X7_ruleState m x0 x1)
def P_X7_isAsKnown (x0 : Int32) (x1 : Int32) (x2 : Int32) : Int32 :=
  if x1 = (1 : Int32) then (
    if x0 = x2 then (
      (1 : Int32)
    ) else (
      (0 : Int32)
    )
  ) else (
    if x1 = (0 : Int32) then (
      (1 : Int32)
    ) else (
      if x0 = x2 then (
        (0 : Int32)
      ) else (
        (1 : Int32)
      )
    )
  )
def F_X7_isAsKnown (m : Mem) (x0 : Int32) (x1 : Int32) (x2 : Int32) : Option (Int32 × Mem) :=
  if x1 = (1 : Int32) then (
    if x0 = x2 then (
      some ((1 : Int32), m)
    ) else (
      some ((0 : Int32), m)
    )
  ) else (
    if x1 = (0 : Int32) then (
      some ((1 : Int32), m)
    ) else (
      if x0 = x2 then (
        some ((0 : Int32), m)
      ) else (
        some ((1 : Int32), m)
      )
    )
  )
set_option maxRecDepth 100000 in
set_option maxHeartbeats 4000000 in
theorem tr_X7_isAsKnown {m m' : Mem} {r : Int32} {x0 : Int32} {x1 : Int32} {x2 : Int32} (hF : F_X7_isAsKnown m x0 x1 x2 = some (r, m')) : Tr yX7_isAsKnown wsX7_isAsKnown 0 0 [q_i x0, q_i x1, q_i x2] m (some r) m' := by
  refine tr_of (bytes := cX7_isAsKnown) (maxL := 3) (ret := (some .boolean)) (by decide) rfl (Nat.le_of_ble_eq_true rfl) (fun K hK hR => ?_)
  have hK : KOK K cX7_isAsKnown 3 RX7 wsX7_isAsKnown 0 0 0 := hK
  show AW K 0 0 [(0, q_i x0), (1, q_i x1), (2, q_i x2)] [] m
  unfold F_X7_isAsKnown at hF
  refine aw_iload_n hK 1 rfl dX7_isAsKnown_0 ?_
  refine aw_iconst hK (1) rfl dX7_isAsKnown_1 ?_
  refine aw_icmp_ne hK 16 rfl dX7_isAsKnown_2 (fun hc => ?_) (fun hc => ?_)
  · have hF := if_f hF hc
    refine aw_iload_n hK 1 rfl dX7_isAsKnown_16 ?_
    refine aw_if_eq hK 25 rfl dX7_isAsKnown_17 (fun hc => ?_) (fun hc => ?_)
    · have hF := if_t hF hc
      refine aw_iconst hK (1) rfl dX7_isAsKnown_25 ?_
      refine aw_goto hK 30 rfl dX7_isAsKnown_26 ?_
      obtain ⟨rfl, rfl⟩ := so_inj hF
      exact aw_iret hK hR rfl dX7_isAsKnown_30
    · have hF := if_f hF hc
      refine aw_iload_n hK 0 rfl dX7_isAsKnown_20 ?_
      refine aw_iload_n hK 2 rfl dX7_isAsKnown_21 ?_
      refine aw_icmp_eq hK 29 rfl dX7_isAsKnown_22 (fun hc => ?_) (fun hc => ?_)
      · have hF := if_t hF hc
        refine aw_iconst hK (0) rfl dX7_isAsKnown_29 ?_
        obtain ⟨rfl, rfl⟩ := so_inj hF
        exact aw_iret hK hR rfl dX7_isAsKnown_30
      · have hF := if_f hF hc
        refine aw_iconst hK (1) rfl dX7_isAsKnown_25 ?_
        refine aw_goto hK 30 rfl dX7_isAsKnown_26 ?_
        obtain ⟨rfl, rfl⟩ := so_inj hF
        exact aw_iret hK hR rfl dX7_isAsKnown_30
  · have hF := if_t hF hc
    refine aw_iload_n hK 0 rfl dX7_isAsKnown_5 ?_
    refine aw_iload_n hK 2 rfl dX7_isAsKnown_6 ?_
    refine aw_icmp_ne hK 14 rfl dX7_isAsKnown_7 (fun hc => ?_) (fun hc => ?_)
    · have hF := if_f hF hc
      refine aw_iconst hK (0) rfl dX7_isAsKnown_14 ?_
      obtain ⟨rfl, rfl⟩ := so_inj hF
      exact aw_iret hK hR rfl dX7_isAsKnown_15
    · have hF := if_t hF hc
      refine aw_iconst hK (1) rfl dX7_isAsKnown_10 ?_
      refine aw_goto hK 15 rfl dX7_isAsKnown_11 ?_
      obtain ⟨rfl, rfl⟩ := so_inj hF
      exact aw_iret hK hR rfl dX7_isAsKnown_15
theorem pb_X7_isAsKnown (x0 : Int32) (x1 : Int32) (x2 : Int32) : isb (P_X7_isAsKnown x0 x1 x2) = true := by
  simp only [P_X7_isAsKnown]
  repeat (first | rfl | split)
theorem fp_X7_isAsKnown (m : Mem) (x0 : Int32) (x1 : Int32) (x2 : Int32) : F_X7_isAsKnown m x0 x1 x2 = some (P_X7_isAsKnown x0 x1 x2, m) := by
  simp only [F_X7_isAsKnown, P_X7_isAsKnown]
  repeat (first | rfl | split)
theorem trp_X7_isAsKnown (x0 : Int32) (x1 : Int32) (x2 : Int32) (m : Mem) : Tr yX7_isAsKnown wsX7_isAsKnown 0 0 [q_i x0, q_i x1, q_i x2] m (some (P_X7_isAsKnown x0 x1 x2)) m := tr_X7_isAsKnown (fp_X7_isAsKnown m x0 x1 x2)
def F_X7_addCopy (N : Nat) (m : Mem) (x1 : Int32) (x2 : Int32) (x3 : Int32) (x4 : Int32) : Option Mem :=
  calv (F_X1_addArc N m (P_X7_ruleState x1 x2) x3 x3 (0 : Int32) (P_X7_ruleState x4 (0 : Int32))) fun m2 =>
  some m2
set_option maxRecDepth 100000 in
set_option maxHeartbeats 4000000 in
theorem tr_X7_addCopy {N : Nat} {m m' : Mem} {x1 : Int32} {x2 : Int32} {x3 : Int32} {x4 : Int32} (hF : F_X7_addCopy N m x1 x2 x3 x4 = some m') : Tr yX7_addCopy wsX7_addCopy 2 48 [q_r 0, q_i x1, q_i x2, q_i x3, q_i x4] m none m' := by
  refine tr_of (bytes := cX7_addCopy) (maxL := 5) (ret := none) (by decide) rfl (Nat.le_of_ble_eq_true rfl) (fun K hK hR => ?_)
  have hK : KOK K cX7_addCopy 5 RX7 wsX7_addCopy 2 0 48 := hK
  show AW K 0 0 [(0, q_r 0), (1, q_i x1), (2, q_i x2), (3, q_i x3), (4, q_i x4)] [] m
  unfold F_X7_addCopy at hF
  refine aw_aload_n hK 0 rfl dX7_addCopy_0 ?_
  refine gf_7_4 hK rfl (3) rfl (List.mem_of_getElem? (i := 1) rfl) dX7_addCopy_1 ?_
  refine aw_iload_n hK 1 rfl dX7_addCopy_4 ?_
  refine aw_iload_n hK 2 rfl dX7_addCopy_5 ?_
  refine aw_cs hK (as := [q_i x1, q_i x2]) (trp_X7_ruleState x1 x2 _) gX7_addCopy_X7_ruleState rfl (na := 2) (by decide +kernel) rfl ⟨by decide, by decide⟩ (Nat.zero_le _) (Nat.le_of_ble_eq_true rfl) dX7_addCopy_6 ?_
  refine aw_iload_n hK 3 rfl dX7_addCopy_9 ?_
  refine aw_iload_n hK 3 rfl dX7_addCopy_10 ?_
  refine aw_iconst hK (0) rfl dX7_addCopy_11 ?_
  refine aw_iload hK 4 rfl dX7_addCopy_12 ?_
  refine aw_iconst hK (0) rfl dX7_addCopy_14 ?_
  refine aw_cs hK (as := [q_i x4, q_i (0 : Int32)]) (trp_X7_ruleState x4 (0 : Int32) _) gX7_addCopy_X7_ruleState rfl (na := 2) (by decide +kernel) rfl ⟨by decide, by decide⟩ (Nat.zero_le _) (Nat.le_of_ble_eq_true rfl) dX7_addCopy_15 ?_
  obtain ⟨m2, h1, hF⟩ := calv_some hF
  refine aw_cv hK 1 (as := [q_i (P_X7_ruleState x1 x2), q_i x3, q_i x3, q_i (0 : Int32), q_i (P_X7_ruleState x4 (0 : Int32))]) (tr_X1_addArc h1) gX7_addCopy_X1_addArc rfl rfl rfl (by decide) (na := 5) (by decide +kernel) rfl ⟨by decide, by decide⟩ (Nat.zero_le _) (Nat.le_of_ble_eq_true rfl) dX7_addCopy_18 ?_
  obtain rfl := Option.some.inj hF
  exact aw_vret hK hR dX7_addCopy_21
def B_X7_addRewriting_82 (N : Nat) (m : Mem) : Option Mem :=
  some m
set_option maxRecDepth 100000 in
set_option maxHeartbeats 4000000 in
theorem bk_X7_addRewriting_82 {N : Nat} {K : KT} {m' : Mem} (hK : KOK K cX7_addRewriting 7 RX7 wsX7_addRewriting 2 0 48) (hR : KRet K none none m') {m : Mem} (hF : B_X7_addRewriting_82 N m = some m') : AW K 0 82 [] [] m := by
  unfold B_X7_addRewriting_82 at hF
  obtain rfl := Option.some.inj hF
  exact aw_vret hK hR dX7_addRewriting_82
def B_X7_addRewriting_60 (N : Nat) (m : Mem) (x1 : Int32) (x2 : Int32) (x5 : Int32) (x6 : Int32) : Option Mem :=
  if x6 = (0 : Int32) then (
    B_X7_addRewriting_82 N m
  ) else (
    calv (F_X1_addArc N m x1 x2 x2 (0 : Int32) (P_X7_ruleState x5 (0 : Int32))) fun m8 =>
    B_X7_addRewriting_82 N m8
  )
set_option maxRecDepth 100000 in
set_option maxHeartbeats 4000000 in
theorem bk_X7_addRewriting_60 {N : Nat} {K : KT} {m' : Mem} (hK : KOK K cX7_addRewriting 7 RX7 wsX7_addRewriting 2 0 48) (hR : KRet K none none m') {m : Mem} {x1 : Int32} {x2 : Int32} {x5 : Int32} {x6 : Int32} (hF : B_X7_addRewriting_60 N m x1 x2 x5 x6 = some m') : AW K 0 60 [(0, q_r 0), (1, q_i x1), (2, q_i x2), (5, q_i x5), (6, q_i x6)] [] m := by
  unfold B_X7_addRewriting_60 at hF
  refine aw_iload hK 4 rfl dX7_addRewriting_60 ?_
  refine aw_if_eq hK 82 rfl dX7_addRewriting_62 (fun hc => ?_) (fun hc => ?_)
  · have hF := if_t hF hc
    refine aw_sub [] (lv' := []) rfl ?_
    exact bk_X7_addRewriting_82 hK hR hF
  · have hF := if_f hF hc
    refine aw_aload_n hK 0 rfl dX7_addRewriting_65 ?_
    refine gf_7_4 hK rfl (3) rfl (List.mem_of_getElem? (i := 1) rfl) dX7_addRewriting_66 ?_
    refine aw_iload_n hK 1 rfl dX7_addRewriting_69 ?_
    refine aw_iload_n hK 2 rfl dX7_addRewriting_70 ?_
    refine aw_iload_n hK 2 rfl dX7_addRewriting_71 ?_
    refine aw_iconst hK (0) rfl dX7_addRewriting_72 ?_
    refine aw_iload hK 3 rfl dX7_addRewriting_73 ?_
    refine aw_iconst hK (0) rfl dX7_addRewriting_75 ?_
    refine aw_cs hK (as := [q_i x5, q_i (0 : Int32)]) (trp_X7_ruleState x5 (0 : Int32) _) gX7_addRewriting_X7_ruleState rfl (na := 2) (by decide +kernel) rfl ⟨by decide, by decide⟩ (Nat.zero_le _) (Nat.le_of_ble_eq_true rfl) dX7_addRewriting_76 ?_
    obtain ⟨m8, h7, hF⟩ := calv_some hF
    refine aw_cv hK 1 (as := [q_i x1, q_i x2, q_i x2, q_i (0 : Int32), q_i (P_X7_ruleState x5 (0 : Int32))]) (tr_X1_addArc h7) gX7_addRewriting_X1_addArc rfl rfl rfl (by decide) (na := 5) (by decide +kernel) rfl ⟨by decide, by decide⟩ (Nat.zero_le _) (Nat.le_of_ble_eq_true rfl) dX7_addRewriting_79 ?_
    refine aw_sub [] (lv' := []) rfl ?_
    exact bk_X7_addRewriting_82 hK hR hF
def F_X7_addRewriting (N : Nat) (m : Mem) (x1 : Int32) (x2 : Int32) (x3 : Int32) (x4 : Int32) (x5 : Int32) (x6 : Int32) : Option Mem :=
  if x4 = (-1 : Int32) then (
    calv (F_X1_addArc N m x1 x2 x3 (0 : Int32) (P_X7_ruleState x5 (0 : Int32))) fun m6 =>
    B_X7_addRewriting_60 N m6 x1 x2 x5 x6
  ) else (
    calv (F_X1_addArc N m x1 x2 x3 (0 : Int32) (P_X7_ruleState x5 (1 : Int32))) fun m2 =>
    calv (F_X1_addArc N m2 x1 x2 x2 (0 : Int32) (P_X7_ruleState x5 (2 : Int32))) fun m4 =>
    B_X7_addRewriting_60 N m4 x1 x2 x5 x6
  )
set_option maxRecDepth 100000 in
set_option maxHeartbeats 4000000 in
theorem tr_X7_addRewriting {N : Nat} {m m' : Mem} {x1 : Int32} {x2 : Int32} {x3 : Int32} {x4 : Int32} {x5 : Int32} {x6 : Int32} (hF : F_X7_addRewriting N m x1 x2 x3 x4 x5 x6 = some m') : Tr yX7_addRewriting wsX7_addRewriting 2 48 [q_r 0, q_i x1, q_i x2, q_i x3, q_i x4, q_i x5, q_i x6] m none m' := by
  refine tr_of (bytes := cX7_addRewriting) (maxL := 7) (ret := none) (by decide) rfl (Nat.le_of_ble_eq_true rfl) (fun K hK hR => ?_)
  have hK : KOK K cX7_addRewriting 7 RX7 wsX7_addRewriting 2 0 48 := hK
  show AW K 0 0 [(0, q_r 0), (1, q_i x1), (2, q_i x2), (3, q_i x3), (4, q_i x4), (5, q_i x5), (6, q_i x6)] [] m
  unfold F_X7_addRewriting at hF
  refine aw_iload hK 4 rfl dX7_addRewriting_0 ?_
  refine aw_iconst hK (-1) rfl dX7_addRewriting_2 ?_
  refine aw_icmp_ne hK 26 rfl dX7_addRewriting_3 (fun hc => ?_) (fun hc => ?_)
  · have hF := if_f hF hc
    refine aw_aload_n hK 0 rfl dX7_addRewriting_26 ?_
    refine gf_7_4 hK rfl (3) rfl (List.mem_of_getElem? (i := 1) rfl) dX7_addRewriting_27 ?_
    refine aw_iload_n hK 1 rfl dX7_addRewriting_30 ?_
    refine aw_iload_n hK 2 rfl dX7_addRewriting_31 ?_
    refine aw_iload_n hK 3 rfl dX7_addRewriting_32 ?_
    refine aw_iconst hK (0) rfl dX7_addRewriting_33 ?_
    refine aw_iload hK 5 rfl dX7_addRewriting_34 ?_
    refine aw_iconst hK (1) rfl dX7_addRewriting_36 ?_
    refine aw_cs hK (as := [q_i x5, q_i (1 : Int32)]) (trp_X7_ruleState x5 (1 : Int32) _) gX7_addRewriting_X7_ruleState rfl (na := 2) (by decide +kernel) rfl ⟨by decide, by decide⟩ (Nat.zero_le _) (Nat.le_of_ble_eq_true rfl) dX7_addRewriting_37 ?_
    obtain ⟨m2, h1, hF⟩ := calv_some hF
    refine aw_cv hK 1 (as := [q_i x1, q_i x2, q_i x3, q_i (0 : Int32), q_i (P_X7_ruleState x5 (1 : Int32))]) (tr_X1_addArc h1) gX7_addRewriting_X1_addArc rfl rfl rfl (by decide) (na := 5) (by decide +kernel) rfl ⟨by decide, by decide⟩ (Nat.zero_le _) (Nat.le_of_ble_eq_true rfl) dX7_addRewriting_40 ?_
    refine aw_aload_n hK 0 rfl dX7_addRewriting_43 ?_
    refine gf_7_4 hK rfl (3) rfl (List.mem_of_getElem? (i := 1) rfl) dX7_addRewriting_44 ?_
    refine aw_iload_n hK 1 rfl dX7_addRewriting_47 ?_
    refine aw_iload_n hK 2 rfl dX7_addRewriting_48 ?_
    refine aw_iload_n hK 2 rfl dX7_addRewriting_49 ?_
    refine aw_iconst hK (0) rfl dX7_addRewriting_50 ?_
    refine aw_iload hK 5 rfl dX7_addRewriting_51 ?_
    refine aw_iconst hK (2) rfl dX7_addRewriting_53 ?_
    refine aw_cs hK (as := [q_i x5, q_i (2 : Int32)]) (trp_X7_ruleState x5 (2 : Int32) _) gX7_addRewriting_X7_ruleState rfl (na := 2) (by decide +kernel) rfl ⟨by decide, by decide⟩ (Nat.zero_le _) (Nat.le_of_ble_eq_true rfl) dX7_addRewriting_54 ?_
    obtain ⟨m4, h3, hF⟩ := calv_some hF
    refine aw_cv hK 1 (as := [q_i x1, q_i x2, q_i x2, q_i (0 : Int32), q_i (P_X7_ruleState x5 (2 : Int32))]) (tr_X1_addArc h3) gX7_addRewriting_X1_addArc rfl rfl rfl (by decide) (na := 5) (by decide +kernel) rfl ⟨by decide, by decide⟩ (Nat.zero_le _) (Nat.le_of_ble_eq_true rfl) dX7_addRewriting_57 ?_
    refine aw_sub [0, 1, 2, 5, 6] (lv' := [(0, q_r 0), (1, q_i x1), (2, q_i x2), (5, q_i x5), (6, q_i x6)]) rfl ?_
    exact bk_X7_addRewriting_60 hK hR hF
  · have hF := if_t hF hc
    refine aw_aload_n hK 0 rfl dX7_addRewriting_6 ?_
    refine gf_7_4 hK rfl (3) rfl (List.mem_of_getElem? (i := 1) rfl) dX7_addRewriting_7 ?_
    refine aw_iload_n hK 1 rfl dX7_addRewriting_10 ?_
    refine aw_iload_n hK 2 rfl dX7_addRewriting_11 ?_
    refine aw_iload_n hK 3 rfl dX7_addRewriting_12 ?_
    refine aw_iconst hK (0) rfl dX7_addRewriting_13 ?_
    refine aw_iload hK 5 rfl dX7_addRewriting_14 ?_
    refine aw_iconst hK (0) rfl dX7_addRewriting_16 ?_
    refine aw_cs hK (as := [q_i x5, q_i (0 : Int32)]) (trp_X7_ruleState x5 (0 : Int32) _) gX7_addRewriting_X7_ruleState rfl (na := 2) (by decide +kernel) rfl ⟨by decide, by decide⟩ (Nat.zero_le _) (Nat.le_of_ble_eq_true rfl) dX7_addRewriting_17 ?_
    obtain ⟨m6, h5, hF⟩ := calv_some hF
    refine aw_cv hK 1 (as := [q_i x1, q_i x2, q_i x3, q_i (0 : Int32), q_i (P_X7_ruleState x5 (0 : Int32))]) (tr_X1_addArc h5) gX7_addRewriting_X1_addArc rfl rfl rfl (by decide) (na := 5) (by decide +kernel) rfl ⟨by decide, by decide⟩ (Nat.zero_le _) (Nat.le_of_ble_eq_true rfl) dX7_addRewriting_20 ?_
    refine aw_goto hK 60 rfl dX7_addRewriting_23 ?_
    refine aw_sub [0, 1, 2, 5, 6] (lv' := [(0, q_r 0), (1, q_i x1), (2, q_i x2), (5, q_i x5), (6, q_i x6)]) rfl ?_
    exact bk_X7_addRewriting_60 hK hR hF
def B_X4_takeArcsApart_87 (N : Nat) (rec_2 : Mem → Int32 → Option Mem) (m : Mem) (x1 : Int32) (x2 : Int32) (s0 : Int32) (s1 : Int32) : Option Mem :=
  gd (inb s1 (alen 44)) <|
  bnd (mup m 44 (ix s1) s0) fun m12 =>
  gd (inb x1 (alen 45)) <|
  bnd (mup m12 45 (ix x1) (P_X7_toOf x2)) fun m14 =>
  bnd (x1 + (1 : Int32)) fun y15 =>
  rec_2 m14 y15
set_option maxRecDepth 100000 in
set_option maxHeartbeats 4000000 in
theorem bk_X4_takeArcsApart_87 {N : Nat} {K : KT} {m' : Mem} {rec_2 : Mem → Int32 → Option Mem} (hK : KOK K cX4_takeArcsApart 3 RX4 wsX4_takeArcsApart 1 0 20) (hR : KRet K none none m') (hrec_2 : ∀ {m : Mem} {x1 : Int32}, rec_2 m x1 = some m' → AW K 0 2 [(0, q_r 40), (1, q_i x1)] [] m) {m : Mem} {x1 : Int32} {x2 : Int32} {s0 : Int32} {s1 : Int32} (hF : B_X4_takeArcsApart_87 N rec_2 m x1 x2 s0 s1 = some m') : AW K 0 87 [(0, q_r 40), (1, q_i x1), (2, q_i x2)] [q_i s0, q_i s1, q_r 44] m := by
  unfold B_X4_takeArcsApart_87 at hF
  obtain ⟨g11, hF⟩ := gd_some hF
  refine aw_iast hK rfl g11 dX4_takeArcsApart_87 ?_
  obtain ⟨m12, hm12, hF⟩ := bnd_some hF
  refine aw_mm hm12 ?_
  refine aw_aload_n hK 0 rfl dX4_takeArcsApart_88 ?_
  refine gf_4_8 hK rfl (45) rfl (List.mem_of_getElem? (i := 9) rfl) dX4_takeArcsApart_89 ?_
  refine aw_iload_n hK 1 rfl dX4_takeArcsApart_92 ?_
  refine aw_iload_n hK 2 rfl dX4_takeArcsApart_93 ?_
  refine aw_csN hK (as := [q_i x2]) (host := "AffixWorks") (trp_X7_toOf x2 _) gX4_takeArcsApart_X7_toOf_n100 rfl (List.mem_of_getElem? (i := 19) rfl) (List.mem_of_getElem? (i := 11) rfl) (List.mem_of_getElem? (i := 17) rfl) (na := 1) (by decide +kernel) rfl ⟨by decide, by decide⟩ (Nat.zero_le _) (Nat.le_of_ble_eq_true rfl) dX4_takeArcsApart_94 ?_
  obtain ⟨g13, hF⟩ := gd_some hF
  refine aw_iast hK rfl g13 dX4_takeArcsApart_97 ?_
  obtain ⟨m14, hm14, hF⟩ := bnd_some hF
  refine aw_mm hm14 ?_
  obtain ⟨y15, hy15, hF⟩ := bnd_some hF
  refine aw_iinc hK (cz := 1) 1 [(1, q_i y15), (0, q_r 40), (2, q_i x2)] (by decide) rfl rfl hy15 rfl dX4_takeArcsApart_98 ?_
  refine aw_goto hK 2 rfl dX4_takeArcsApart_101 ?_
  refine aw_sub [1, 0] (lv' := [(0, q_r 40), (1, q_i y15)]) rfl ?_
  exact hrec_2 hF
def B_X4_takeArcsApart_63 (N : Nat) (rec_2 : Mem → Int32 → Option Mem) (m : Mem) (x1 : Int32) (x2 : Int32) (s0 : Int32) (s1 : Int32) : Option Mem :=
  gd (inb s1 (alen 43)) <|
  bnd (mup m 43 (ix s1) s0) fun m10 =>
  if (m10 40 3) = (0 : Int32) then (
    B_X4_takeArcsApart_87 N rec_2 m10 x1 x2 (P_X7_lowerOf x2) x1
  ) else (
    B_X4_takeArcsApart_87 N rec_2 m10 x1 x2 (P_X7_upperOf x2) x1
  )
set_option maxRecDepth 100000 in
set_option maxHeartbeats 4000000 in
theorem bk_X4_takeArcsApart_63 {N : Nat} {K : KT} {m' : Mem} {rec_2 : Mem → Int32 → Option Mem} (hK : KOK K cX4_takeArcsApart 3 RX4 wsX4_takeArcsApart 1 0 20) (hR : KRet K none none m') (hrec_2 : ∀ {m : Mem} {x1 : Int32}, rec_2 m x1 = some m' → AW K 0 2 [(0, q_r 40), (1, q_i x1)] [] m) {m : Mem} {x1 : Int32} {x2 : Int32} {s0 : Int32} {s1 : Int32} (hF : B_X4_takeArcsApart_63 N rec_2 m x1 x2 s0 s1 = some m') : AW K 0 63 [(0, q_r 40), (1, q_i x1), (2, q_i x2)] [q_i s0, q_i s1, q_r 43] m := by
  unfold B_X4_takeArcsApart_63 at hF
  obtain ⟨g9, hF⟩ := gd_some hF
  refine aw_iast hK rfl g9 dX4_takeArcsApart_63 ?_
  obtain ⟨m10, hm10, hF⟩ := bnd_some hF
  refine aw_mm hm10 ?_
  refine aw_aload_n hK 0 rfl dX4_takeArcsApart_64 ?_
  refine gf_4_7 hK rfl (44) rfl (List.mem_of_getElem? (i := 8) rfl) dX4_takeArcsApart_65 ?_
  refine aw_iload_n hK 1 rfl dX4_takeArcsApart_68 ?_
  refine aw_aload_n hK 0 rfl dX4_takeArcsApart_69 ?_
  refine gf_4_3 hK rfl (List.mem_of_getElem? (i := 7) rfl) dX4_takeArcsApart_70 ?_
  refine aw_if_ne hK 83 rfl dX4_takeArcsApart_73 (fun hc => ?_) (fun hc => ?_)
  · have hF := if_f hF hc
    refine aw_iload_n hK 2 rfl dX4_takeArcsApart_83 ?_
    refine aw_csN hK (as := [q_i x2]) (host := "AffixWorks") (trp_X7_upperOf x2 _) gX4_takeArcsApart_X7_upperOf_n97 rfl (List.mem_of_getElem? (i := 24) rfl) (List.mem_of_getElem? (i := 11) rfl) (List.mem_of_getElem? (i := 15) rfl) (na := 1) (by decide +kernel) rfl ⟨by decide, by decide⟩ (Nat.zero_le _) (Nat.le_of_ble_eq_true rfl) dX4_takeArcsApart_84 ?_
    refine aw_sub [0, 1, 2] (lv' := [(0, q_r 40), (1, q_i x1), (2, q_i x2)]) rfl ?_
    exact bk_X4_takeArcsApart_87 hK hR hrec_2 hF
  · have hF := if_t hF hc
    refine aw_iload_n hK 2 rfl dX4_takeArcsApart_76 ?_
    refine aw_csN hK (as := [q_i x2]) (host := "AffixWorks") (trp_X7_lowerOf x2 _) gX4_takeArcsApart_X7_lowerOf_n94 rfl (List.mem_of_getElem? (i := 23) rfl) (List.mem_of_getElem? (i := 11) rfl) (List.mem_of_getElem? (i := 13) rfl) (na := 1) (by decide +kernel) rfl ⟨by decide, by decide⟩ (Nat.zero_le _) (Nat.le_of_ble_eq_true rfl) dX4_takeArcsApart_77 ?_
    refine aw_goto hK 87 rfl dX4_takeArcsApart_80 ?_
    refine aw_sub [0, 1, 2] (lv' := [(0, q_r 40), (1, q_i x1), (2, q_i x2)]) rfl ?_
    exact bk_X4_takeArcsApart_87 hK hR hrec_2 hF
def S_X4_takeArcsApart_2 (N : Nat) (rec_2 : Mem → Int32 → Option Mem) (m : Mem) (x1 : Int32) : Option Mem :=
  bnd (ix (m 40 2)) fun q1 => gd (knd q1 == 3) <|
  if (m (q1 + 1) 2) ≤ x1 then (
    some m
  ) else (
    bnd (ix (m 40 2)) fun q3 => gd (knd q3 == 3) <|
    gd (inb x1 (alen ((q3 + 1) + 1))) <|
    bnd (m ((q3 + 1) + 1) (ix x1)) fun y6 =>
    gd (inb x1 (alen 42)) <|
    bnd (mup m 42 (ix x1) (P_X7_fromOf y6)) fun m8 =>
    if (m8 40 3) = (1 : Int32) then (
      B_X4_takeArcsApart_63 N rec_2 m8 x1 y6 (P_X7_lowerOf y6) x1
    ) else (
      B_X4_takeArcsApart_63 N rec_2 m8 x1 y6 (P_X7_upperOf y6) x1
    )
  )
def L_X4_takeArcsApart_2 (N : Nat) : Nat → Mem → Int32 → Option Mem
  | 0 => fun _ _ => none
  | f + 1 => S_X4_takeArcsApart_2 N (L_X4_takeArcsApart_2 N f)
set_option maxRecDepth 100000 in
set_option maxHeartbeats 4000000 in
theorem lp_X4_takeArcsApart_2 {N : Nat} {K : KT} {m' : Mem} (hK : KOK K cX4_takeArcsApart 3 RX4 wsX4_takeArcsApart 1 0 20) (hR : KRet K none none m') : ∀ (f : Nat) {m : Mem} {x1 : Int32}, L_X4_takeArcsApart_2 N f m x1 = some m' → AW K 0 2 [(0, q_r 40), (1, q_i x1)] [] m := by
  intro f
  induction f with
  | zero => intro m x1 hF; cases hF
  | succ f hrec_2 =>
    intro m x1 hF
    have hF : S_X4_takeArcsApart_2 N (L_X4_takeArcsApart_2 N f) m x1 = some m' := hF
    unfold S_X4_takeArcsApart_2 at hF
    refine aw_iload_n hK 1 rfl dX4_takeArcsApart_2 ?_
    refine aw_aload_n hK 0 rfl dX4_takeArcsApart_3 ?_
    refine gf_4_2 hK rfl (List.mem_of_getElem? (i := 1) rfl) dX4_takeArcsApart_4 ?_
    obtain ⟨q1, hq1, hF⟩ := bnd_some hF
    obtain ⟨g2, hF⟩ := gd_some hF
    refine aw_nr hq1 ?_
    refine gf_3_0 hK (eq_of_beq g2) (q1 + 1) rfl (List.mem_of_getElem? (i := 2) rfl) dX4_takeArcsApart_7 ?_
    refine gf_0_2 hK (kM1 (eq_of_beq g2)) (List.mem_of_getElem? (i := 3) rfl) dX4_takeArcsApart_10 ?_
    refine aw_icmp_ge hK 104 rfl dX4_takeArcsApart_13 (fun hc => ?_) (fun hc => ?_)
    · have hF := if_t hF hc
      obtain rfl := Option.some.inj hF
      exact aw_vret hK hR dX4_takeArcsApart_104
    · have hF := if_f hF hc
      refine aw_aload_n hK 0 rfl dX4_takeArcsApart_16 ?_
      refine gf_4_2 hK rfl (List.mem_of_getElem? (i := 1) rfl) dX4_takeArcsApart_17 ?_
      obtain ⟨q3, hq3, hF⟩ := bnd_some hF
      obtain ⟨g4, hF⟩ := gd_some hF
      refine aw_nr hq3 ?_
      refine gf_3_0 hK (eq_of_beq g4) (q3 + 1) rfl (List.mem_of_getElem? (i := 2) rfl) dX4_takeArcsApart_20 ?_
      refine gf_0_0 hK (kM1 (eq_of_beq g4)) ((q3 + 1) + 1) rfl (List.mem_of_getElem? (i := 4) rfl) dX4_takeArcsApart_23 ?_
      refine aw_iload_n hK 1 rfl dX4_takeArcsApart_26 ?_
      obtain ⟨g5, hF⟩ := gd_some hF
      refine aw_iald hK (kA1 (kM1 (eq_of_beq g4))) g5 dX4_takeArcsApart_27 ?_
      obtain ⟨y6, hy6, hF⟩ := bnd_some hF
      refine aw_nm hy6 ?_
      refine aw_istore_n hK [(2, q_i y6), (0, q_r 40), (1, q_i x1)] (by decide) rfl dX4_takeArcsApart_28 ?_
      refine aw_aload_n hK 1 rfl dX4_takeArcsApart_29 ?_
      refine gf_4_5 hK rfl (42) rfl (List.mem_of_getElem? (i := 5) rfl) dX4_takeArcsApart_30 ?_
      refine aw_iload_n hK 2 rfl dX4_takeArcsApart_33 ?_
      refine aw_iload_n hK 0 rfl dX4_takeArcsApart_34 ?_
      refine aw_csN hK (as := [q_i y6]) (host := "AffixWorks") (trp_X7_fromOf y6 _) gX4_takeArcsApart_X7_fromOf_n90 rfl (List.mem_of_getElem? (i := 22) rfl) (List.mem_of_getElem? (i := 11) rfl) (List.mem_of_getElem? (i := 10) rfl) (na := 1) (by decide +kernel) rfl ⟨by decide, by decide⟩ (Nat.zero_le _) (Nat.le_of_ble_eq_true rfl) dX4_takeArcsApart_35 ?_
      obtain ⟨g7, hF⟩ := gd_some hF
      refine aw_iast hK rfl g7 dX4_takeArcsApart_38 ?_
      obtain ⟨m8, hm8, hF⟩ := bnd_some hF
      refine aw_mm hm8 ?_
      refine aw_aload_n hK 1 rfl dX4_takeArcsApart_39 ?_
      refine gf_4_6 hK rfl (43) rfl (List.mem_of_getElem? (i := 6) rfl) dX4_takeArcsApart_40 ?_
      refine aw_iload_n hK 2 rfl dX4_takeArcsApart_43 ?_
      refine aw_aload_n hK 1 rfl dX4_takeArcsApart_44 ?_
      refine gf_4_3 hK rfl (List.mem_of_getElem? (i := 7) rfl) dX4_takeArcsApart_45 ?_
      refine aw_iconst hK (1) rfl dX4_takeArcsApart_48 ?_
      refine aw_icmp_ne hK 59 rfl dX4_takeArcsApart_49 (fun hc => ?_) (fun hc => ?_)
      · have hF := if_f hF hc
        refine aw_iload_n hK 0 rfl dX4_takeArcsApart_59 ?_
        refine aw_csN hK (as := [q_i y6]) (host := "AffixWorks") (trp_X7_upperOf y6 _) gX4_takeArcsApart_X7_upperOf_n97 rfl (List.mem_of_getElem? (i := 24) rfl) (List.mem_of_getElem? (i := 11) rfl) (List.mem_of_getElem? (i := 15) rfl) (na := 1) (by decide +kernel) rfl ⟨by decide, by decide⟩ (Nat.zero_le _) (Nat.le_of_ble_eq_true rfl) dX4_takeArcsApart_60 ?_
        refine aw_sub [1, 2, 0] (lv' := [(0, q_r 40), (1, q_i x1), (2, q_i y6)]) rfl ?_
        exact bk_X4_takeArcsApart_63 hK hR hrec_2 hF
      · have hF := if_t hF hc
        refine aw_iload_n hK 0 rfl dX4_takeArcsApart_52 ?_
        refine aw_csN hK (as := [q_i y6]) (host := "AffixWorks") (trp_X7_lowerOf y6 _) gX4_takeArcsApart_X7_lowerOf_n94 rfl (List.mem_of_getElem? (i := 23) rfl) (List.mem_of_getElem? (i := 11) rfl) (List.mem_of_getElem? (i := 13) rfl) (na := 1) (by decide +kernel) rfl ⟨by decide, by decide⟩ (Nat.zero_le _) (Nat.le_of_ble_eq_true rfl) dX4_takeArcsApart_53 ?_
        refine aw_goto hK 63 rfl dX4_takeArcsApart_56 ?_
        refine aw_sub [1, 2, 0] (lv' := [(0, q_r 40), (1, q_i x1), (2, q_i y6)]) rfl ?_
        exact bk_X4_takeArcsApart_63 hK hR hrec_2 hF
def F_X4_takeArcsApart (N : Nat) (m : Mem) : Option Mem :=
  L_X4_takeArcsApart_2 N N m (0 : Int32)
set_option maxRecDepth 100000 in
set_option maxHeartbeats 4000000 in
theorem tr_X4_takeArcsApart {N : Nat} {m m' : Mem} (hF : F_X4_takeArcsApart N m = some m') : Tr yX4_takeArcsApart wsX4_takeArcsApart 1 20 [q_r 40] m none m' := by
  refine tr_of (bytes := cX4_takeArcsApart) (maxL := 3) (ret := none) (by decide) rfl (Nat.le_of_ble_eq_true rfl) (fun K hK hR => ?_)
  have hK : KOK K cX4_takeArcsApart 3 RX4 wsX4_takeArcsApart 1 0 20 := hK
  show AW K 0 0 [(0, q_r 40)] [] m
  unfold F_X4_takeArcsApart at hF
  refine aw_iconst hK (0) rfl dX4_takeArcsApart_0 ?_
  refine aw_istore_n hK [(1, q_i (0 : Int32)), (0, q_r 40)] (by decide) rfl dX4_takeArcsApart_1 ?_
  refine aw_sub [1, 0] (lv' := [(0, q_r 40), (1, q_i (0 : Int32))]) rfl ?_
  exact lp_X4_takeArcsApart_2 hK hR _ hF
def P_X4_cellAt (x0 : Int32) (x1 : Int32) : Int32 :=
  (x0 * (32 : Int32)) + x1
def F_X4_cellAt (m : Mem) (x0 : Int32) (x1 : Int32) : Option (Int32 × Mem) :=
  some ((x0 * (32 : Int32)) + x1, m)
set_option maxRecDepth 100000 in
set_option maxHeartbeats 4000000 in
theorem tr_X4_cellAt {m m' : Mem} {r : Int32} {x0 : Int32} {x1 : Int32} (hF : F_X4_cellAt m x0 x1 = some (r, m')) : Tr yX4_cellAt wsX4_cellAt 0 0 [q_i x0, q_i x1] m (some r) m' := by
  refine tr_of (bytes := cX4_cellAt) (maxL := 2) (ret := (some .int)) (by decide) rfl (Nat.le_of_ble_eq_true rfl) (fun K hK hR => ?_)
  have hK : KOK K cX4_cellAt 2 RX4 wsX4_cellAt 0 0 0 := hK
  show AW K 0 0 [(0, q_i x0), (1, q_i x1)] [] m
  unfold F_X4_cellAt at hF
  refine aw_iload_n hK 0 rfl dX4_cellAt_0 ?_
  refine aw_bipush hK (32) rfl dX4_cellAt_1 ?_
  refine aw_imul hK dX4_cellAt_3 ?_
  refine aw_iload_n hK 1 rfl dX4_cellAt_4 ?_
  refine aw_iadd hK dX4_cellAt_5 ?_
  obtain ⟨rfl, rfl⟩ := so_inj hF
  exact aw_iret hK hR rfl dX4_cellAt_6
theorem fp_X4_cellAt (m : Mem) (x0 : Int32) (x1 : Int32) : F_X4_cellAt m x0 x1 = some (P_X4_cellAt x0 x1, m) := by
  simp only [F_X4_cellAt, P_X4_cellAt]
  repeat (first | rfl | split)
theorem trp_X4_cellAt (x0 : Int32) (x1 : Int32) (m : Mem) : Tr yX4_cellAt wsX4_cellAt 0 0 [q_i x0, q_i x1] m (some (P_X4_cellAt x0 x1)) m := tr_X4_cellAt (fp_X4_cellAt m x0 x1)
def B_X4_costToRead_81 (N : Nat) (m : Mem) (s0 : Int32) : Option (Int32 × Mem) :=
  some (s0, m)
set_option maxRecDepth 100000 in
set_option maxHeartbeats 4000000 in
theorem bk_X4_costToRead_81 {N : Nat} {K : KT} {m' : Mem} {r : Int32} (hK : KOK K cX4_costToRead 3 RX4 wsX4_costToRead 0 0 0) (hR : KRet K (some .int) (some r) m') {m : Mem} {s0 : Int32} (hF : B_X4_costToRead_81 N m s0 = some (r, m')) : AW K 0 81 [] [q_i s0] m := by
  unfold B_X4_costToRead_81 at hF
  obtain ⟨rfl, rfl⟩ := so_inj hF
  exact aw_iret hK hR rfl dX4_costToRead_81
def B_X4_costToRead_49 (N : Nat) (m : Mem) (s0 : Int32) : Option (Int32 × Mem) :=
  some (s0, m)
set_option maxRecDepth 100000 in
set_option maxHeartbeats 4000000 in
theorem bk_X4_costToRead_49 {N : Nat} {K : KT} {m' : Mem} {r : Int32} (hK : KOK K cX4_costToRead 3 RX4 wsX4_costToRead 0 0 0) (hR : KRet K (some .int) (some r) m') {m : Mem} {s0 : Int32} (hF : B_X4_costToRead_49 N m s0 = some (r, m')) : AW K 0 49 [] [q_i s0] m := by
  unfold B_X4_costToRead_49 at hF
  obtain ⟨rfl, rfl⟩ := so_inj hF
  exact aw_iret hK hR rfl dX4_costToRead_49
def B_X4_costToRead_19 (N : Nat) (m : Mem) : Option (Int32 × Mem) :=
  some ((-1 : Int32), m)
set_option maxRecDepth 100000 in
set_option maxHeartbeats 4000000 in
theorem bk_X4_costToRead_19 {N : Nat} {K : KT} {m' : Mem} {r : Int32} (hK : KOK K cX4_costToRead 3 RX4 wsX4_costToRead 0 0 0) (hR : KRet K (some .int) (some r) m') {m : Mem} (hF : B_X4_costToRead_19 N m = some (r, m')) : AW K 0 19 [] [] m := by
  unfold B_X4_costToRead_19 at hF
  refine aw_iconst hK (-1) rfl dX4_costToRead_19 ?_
  obtain ⟨rfl, rfl⟩ := so_inj hF
  exact aw_iret hK hR rfl dX4_costToRead_20
def F_X4_costToRead (N : Nat) (m : Mem) (x1 : Int32) (x2 : Int32) : Option (Int32 × Mem) :=
  gd (inb x1 (alen 43)) <|
  if (m 43 (ix x1)) = (8 : Int32) then (
    B_X4_costToRead_19 N m
  ) else (
    if x2 < (m 40 1) then (
      if (m 40 3) = (2 : Int32) then (
        gd (inb x1 (alen 43)) <|
        gd (inb x2 (alen 41)) <|
        if (m 43 (ix x1)) = (m 41 (ix x2)) then (
          B_X4_costToRead_49 N m (0 : Int32)
        ) else (
          B_X4_costToRead_49 N m (1 : Int32)
        )
      ) else (
        gd (inb x1 (alen 43)) <|
        gd (inb x2 (alen 41)) <|
        if (m 43 (ix x1)) = (m 41 (ix x2)) then (
          bnd (ix (m 40 2)) fun q4 => gd (knd q4 == 3) <|
          gd (inb x1 (alen ((q4 + 1) + 2))) <|
          B_X4_costToRead_81 N m (m ((q4 + 1) + 2) (ix x1))
        ) else (
          B_X4_costToRead_81 N m (-1 : Int32)
        )
      )
    ) else (
      B_X4_costToRead_19 N m
    )
  )
set_option maxRecDepth 100000 in
set_option maxHeartbeats 4000000 in
theorem tr_X4_costToRead {N : Nat} {m m' : Mem} {r : Int32} {x1 : Int32} {x2 : Int32} (hF : F_X4_costToRead N m x1 x2 = some (r, m')) : Tr yX4_costToRead wsX4_costToRead 0 0 [q_r 40, q_i x1, q_i x2] m (some r) m' := by
  refine tr_of (bytes := cX4_costToRead) (maxL := 3) (ret := (some .int)) (by decide) rfl (Nat.le_of_ble_eq_true rfl) (fun K hK hR => ?_)
  have hK : KOK K cX4_costToRead 3 RX4 wsX4_costToRead 0 0 0 := hK
  show AW K 0 0 [(0, q_r 40), (1, q_i x1), (2, q_i x2)] [] m
  unfold F_X4_costToRead at hF
  refine aw_aload_n hK 0 rfl dX4_costToRead_0 ?_
  refine gf_4_6 hK rfl (43) rfl (List.mem_of_getElem? (i := 1) rfl) dX4_costToRead_1 ?_
  refine aw_iload_n hK 1 rfl dX4_costToRead_4 ?_
  obtain ⟨g1, hF⟩ := gd_some hF
  refine aw_iald hK rfl g1 dX4_costToRead_5 ?_
  refine aw_bipush hK (8) rfl dX4_costToRead_6 ?_
  refine aw_icmp_eq hK 19 rfl dX4_costToRead_8 (fun hc => ?_) (fun hc => ?_)
  · have hF := if_t hF hc
    refine aw_sub [] (lv' := []) rfl ?_
    exact bk_X4_costToRead_19 hK hR hF
  · have hF := if_f hF hc
    refine aw_iload_n hK 2 rfl dX4_costToRead_11 ?_
    refine aw_aload_n hK 0 rfl dX4_costToRead_12 ?_
    refine gf_4_1 hK rfl (List.mem_of_getElem? (i := 2) rfl) dX4_costToRead_13 ?_
    refine aw_icmp_lt hK 21 rfl dX4_costToRead_16 (fun hc => ?_) (fun hc => ?_)
    · have hF := if_t hF hc
      refine aw_aload_n hK 0 rfl dX4_costToRead_21 ?_
      refine gf_4_3 hK rfl (List.mem_of_getElem? (i := 3) rfl) dX4_costToRead_22 ?_
      refine aw_iconst hK (2) rfl dX4_costToRead_25 ?_
      refine aw_icmp_ne hK 50 rfl dX4_costToRead_26 (fun hc => ?_) (fun hc => ?_)
      · have hF := if_f hF hc
        refine aw_aload_n hK 0 rfl dX4_costToRead_50 ?_
        refine gf_4_6 hK rfl (43) rfl (List.mem_of_getElem? (i := 1) rfl) dX4_costToRead_51 ?_
        refine aw_iload_n hK 1 rfl dX4_costToRead_54 ?_
        obtain ⟨g2, hF⟩ := gd_some hF
        refine aw_iald hK rfl g2 dX4_costToRead_55 ?_
        refine aw_aload_n hK 0 rfl dX4_costToRead_56 ?_
        refine gf_4_0 hK rfl (41) rfl (List.mem_of_getElem? (i := 4) rfl) dX4_costToRead_57 ?_
        refine aw_iload_n hK 2 rfl dX4_costToRead_60 ?_
        obtain ⟨g3, hF⟩ := gd_some hF
        refine aw_iald hK rfl g3 dX4_costToRead_61 ?_
        refine aw_icmp_ne hK 80 rfl dX4_costToRead_62 (fun hc => ?_) (fun hc => ?_)
        · have hF := if_f hF hc
          refine aw_iconst hK (-1) rfl dX4_costToRead_80 ?_
          refine aw_sub [] (lv' := []) rfl ?_
          exact bk_X4_costToRead_81 hK hR hF
        · have hF := if_t hF hc
          refine aw_aload_n hK 0 rfl dX4_costToRead_65 ?_
          refine gf_4_2 hK rfl (List.mem_of_getElem? (i := 5) rfl) dX4_costToRead_66 ?_
          obtain ⟨q4, hq4, hF⟩ := bnd_some hF
          obtain ⟨g5, hF⟩ := gd_some hF
          refine aw_nr hq4 ?_
          refine gf_3_0 hK (eq_of_beq g5) (q4 + 1) rfl (List.mem_of_getElem? (i := 6) rfl) dX4_costToRead_69 ?_
          refine gf_0_1 hK (kM1 (eq_of_beq g5)) ((q4 + 1) + 2) rfl (List.mem_of_getElem? (i := 7) rfl) dX4_costToRead_72 ?_
          refine aw_iload_n hK 1 rfl dX4_costToRead_75 ?_
          obtain ⟨g6, hF⟩ := gd_some hF
          refine aw_iald hK (kA2 (kM1 (eq_of_beq g5))) g6 dX4_costToRead_76 ?_
          refine aw_goto hK 81 rfl dX4_costToRead_77 ?_
          refine aw_sub [] (lv' := []) rfl ?_
          exact bk_X4_costToRead_81 hK hR hF
      · have hF := if_t hF hc
        refine aw_aload_n hK 0 rfl dX4_costToRead_29 ?_
        refine gf_4_6 hK rfl (43) rfl (List.mem_of_getElem? (i := 1) rfl) dX4_costToRead_30 ?_
        refine aw_iload_n hK 1 rfl dX4_costToRead_33 ?_
        obtain ⟨g7, hF⟩ := gd_some hF
        refine aw_iald hK rfl g7 dX4_costToRead_34 ?_
        refine aw_aload_n hK 0 rfl dX4_costToRead_35 ?_
        refine gf_4_0 hK rfl (41) rfl (List.mem_of_getElem? (i := 4) rfl) dX4_costToRead_36 ?_
        refine aw_iload_n hK 2 rfl dX4_costToRead_39 ?_
        obtain ⟨g8, hF⟩ := gd_some hF
        refine aw_iald hK rfl g8 dX4_costToRead_40 ?_
        refine aw_icmp_ne hK 48 rfl dX4_costToRead_41 (fun hc => ?_) (fun hc => ?_)
        · have hF := if_f hF hc
          refine aw_iconst hK (1) rfl dX4_costToRead_48 ?_
          refine aw_sub [] (lv' := []) rfl ?_
          exact bk_X4_costToRead_49 hK hR hF
        · have hF := if_t hF hc
          refine aw_iconst hK (0) rfl dX4_costToRead_44 ?_
          refine aw_goto hK 49 rfl dX4_costToRead_45 ?_
          refine aw_sub [] (lv' := []) rfl ?_
          exact bk_X4_costToRead_49 hK hR hF
    · have hF := if_f hF hc
      refine aw_sub [] (lv' := []) rfl ?_
      exact bk_X4_costToRead_19 hK hR hF
