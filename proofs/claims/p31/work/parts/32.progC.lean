def B_X7_addMovesOfOther_97 (N : Nat) (rec_2 : Mem → Nat → Int32 → Int32 → Option Mem) (m : Mem) (a1 : Nat) (x2 : Int32) (x3 : Int32) : Option Mem :=
  bnd (x3 + (1 : Int32)) fun y8 =>
  rec_2 m a1 x2 y8
set_option maxRecDepth 100000 in
set_option maxHeartbeats 4000000 in
theorem bk_X7_addMovesOfOther_97 {N : Nat} {K : KT} {m' : Mem} {rec_2 : Mem → Nat → Int32 → Int32 → Option Mem} (hK : KOK K cX7_addMovesOfOther 7 RX7 wsX7_addMovesOfOther 2 0 48) (hR : KRet K none none m') (hrec_2 : ∀ {m : Mem} {a1 : Nat} {x2 : Int32} {x3 : Int32} (hk1 : knd a1 = 3), rec_2 m a1 x2 x3 = some m' → AW K 0 2 [(0, q_r 0), (1, q_r a1), (2, q_i x2), (3, q_i x3)] [] m) {m : Mem} {a1 : Nat} {x2 : Int32} {x3 : Int32} (hk1 : knd a1 = 3) (hF : B_X7_addMovesOfOther_97 N rec_2 m a1 x2 x3 = some m') : AW K 0 97 [(0, q_r 0), (1, q_r a1), (2, q_i x2), (3, q_i x3)] [] m := by
  unfold B_X7_addMovesOfOther_97 at hF
  obtain ⟨y8, hy8, hF⟩ := bnd_some hF
  refine aw_iinc hK (cz := 1) 3 [(3, q_i y8), (0, q_r 0), (1, q_r a1), (2, q_i x2)] (by decide) rfl rfl hy8 rfl dX7_addMovesOfOther_97 ?_
  refine aw_goto hK 2 rfl dX7_addMovesOfOther_100 ?_
  refine aw_sub [1, 2, 3, 0] (lv' := [(0, q_r 0), (1, q_r a1), (2, q_i x2), (3, q_i y8)]) rfl ?_
  exact hrec_2 hk1 hF
def S_X7_addMovesOfOther_37 (N : Nat) (rec_2 : Mem → Nat → Int32 → Int32 → Option Mem) (rec_37 : Mem → Nat → Int32 → Int32 → Int32 → Int32 → Option Mem) (m : Mem) (a1 : Nat) (x2 : Int32) (x3 : Int32) (x4 : Int32) (x5 : Int32) : Option Mem :=
  if x2 ≤ x5 then (
    B_X7_addMovesOfOther_97 N rec_2 m a1 x2 x3
  ) else (
    bnd (x5 * (m a1 1)) fun y3 =>
    gd (inb x3 (alen ((a1 + 1) + 2))) <|
    calv (F_X1_addArc N m (y3 + (P_X7_fromOf x4)) (8 : Int32) (P_X7_lowerOf x4) (m ((a1 + 1) + 2) (ix x3)) (y3 + (P_X7_toOf x4))) fun m6 =>
    bnd (x5 + (1 : Int32)) fun y7 =>
    rec_37 m6 a1 x2 x3 x4 y7
  )
def L_X7_addMovesOfOther_37 (N : Nat) (rec_2 : Mem → Nat → Int32 → Int32 → Option Mem) : Nat → Mem → Nat → Int32 → Int32 → Int32 → Int32 → Option Mem
  | 0 => fun _ _ _ _ _ _ => none
  | f + 1 => S_X7_addMovesOfOther_37 N rec_2 (L_X7_addMovesOfOther_37 N rec_2 f)
set_option maxRecDepth 100000 in
set_option maxHeartbeats 4000000 in
theorem lp_X7_addMovesOfOther_37 {N : Nat} {K : KT} {m' : Mem} {rec_2 : Mem → Nat → Int32 → Int32 → Option Mem} (hK : KOK K cX7_addMovesOfOther 7 RX7 wsX7_addMovesOfOther 2 0 48) (hR : KRet K none none m') (hrec_2 : ∀ {m : Mem} {a1 : Nat} {x2 : Int32} {x3 : Int32} (hk1 : knd a1 = 3), rec_2 m a1 x2 x3 = some m' → AW K 0 2 [(0, q_r 0), (1, q_r a1), (2, q_i x2), (3, q_i x3)] [] m) : ∀ (f : Nat) {m : Mem} {a1 : Nat} {x2 : Int32} {x3 : Int32} {x4 : Int32} {x5 : Int32} (hk1 : knd a1 = 3), L_X7_addMovesOfOther_37 N rec_2 f m a1 x2 x3 x4 x5 = some m' → AW K 0 37 [(0, q_r 0), (1, q_r a1), (2, q_i x2), (3, q_i x3), (4, q_i x4), (5, q_i x5)] [] m := by
  intro f
  induction f with
  | zero => intro m a1 x2 x3 x4 x5 hk1 hF; cases hF
  | succ f hrec_37 =>
    intro m a1 x2 x3 x4 x5 hk1 hF
    have hF : S_X7_addMovesOfOther_37 N rec_2 (L_X7_addMovesOfOther_37 N rec_2 f) m a1 x2 x3 x4 x5 = some m' := hF
    unfold S_X7_addMovesOfOther_37 at hF
    refine aw_iload hK 5 rfl dX7_addMovesOfOther_37 ?_
    refine aw_iload_n hK 2 rfl dX7_addMovesOfOther_39 ?_
    refine aw_icmp_ge hK 97 rfl dX7_addMovesOfOther_40 (fun hc => ?_) (fun hc => ?_)
    · have hF := if_t hF hc
      refine aw_sub [0, 1, 2, 3] (lv' := [(0, q_r 0), (1, q_r a1), (2, q_i x2), (3, q_i x3)]) rfl ?_
      exact bk_X7_addMovesOfOther_97 hK hR hrec_2 hk1 hF
    · have hF := if_f hF hc
      refine aw_iload hK 5 rfl dX7_addMovesOfOther_43 ?_
      refine aw_aload_n hK 1 rfl dX7_addMovesOfOther_45 ?_
      refine gf_3_1 hK hk1 (List.mem_of_getElem? (i := 4) rfl) dX7_addMovesOfOther_46 ?_
      refine aw_imul hK dX7_addMovesOfOther_49 ?_
      obtain ⟨y3, hy3, hF⟩ := bnd_some hF
      refine aw_nm hy3 ?_
      refine aw_istore hK [(6, q_i y3), (0, q_r 0), (1, q_r a1), (2, q_i x2), (3, q_i x3), (4, q_i x4), (5, q_i x5)] (by decide) rfl dX7_addMovesOfOther_50 ?_
      refine aw_aload_n hK 1 rfl dX7_addMovesOfOther_52 ?_
      refine gf_7_4 hK rfl (3) rfl (List.mem_of_getElem? (i := 5) rfl) dX7_addMovesOfOther_53 ?_
      refine aw_iload hK 0 rfl dX7_addMovesOfOther_56 ?_
      refine aw_iload hK 5 rfl dX7_addMovesOfOther_58 ?_
      refine aw_cs hK (as := [q_i x4]) (trp_X7_fromOf x4 _) gX7_addMovesOfOther_X7_fromOf rfl (na := 1) (by decide +kernel) rfl ⟨by decide, by decide⟩ (Nat.zero_le _) (Nat.le_of_ble_eq_true rfl) dX7_addMovesOfOther_60 ?_
      refine aw_iadd hK dX7_addMovesOfOther_63 ?_
      refine aw_bipush hK (8) rfl dX7_addMovesOfOther_64 ?_
      refine aw_iload hK 5 rfl dX7_addMovesOfOther_66 ?_
      refine aw_cs hK (as := [q_i x4]) (trp_X7_lowerOf x4 _) gX7_addMovesOfOther_X7_lowerOf rfl (na := 1) (by decide +kernel) rfl ⟨by decide, by decide⟩ (Nat.zero_le _) (Nat.le_of_ble_eq_true rfl) dX7_addMovesOfOther_68 ?_
      refine aw_aload_n hK 2 rfl dX7_addMovesOfOther_71 ?_
      refine gf_3_0 hK hk1 (a1 + 1) rfl (List.mem_of_getElem? (i := 1) rfl) dX7_addMovesOfOther_72 ?_
      refine gf_0_1 hK (kM1 hk1) ((a1 + 1) + 2) rfl (List.mem_of_getElem? (i := 6) rfl) dX7_addMovesOfOther_75 ?_
      refine aw_iload_n hK 4 rfl dX7_addMovesOfOther_78 ?_
      obtain ⟨g4, hF⟩ := gd_some hF
      refine aw_iald hK (kA2 (kM1 hk1)) g4 dX7_addMovesOfOther_79 ?_
      refine aw_iload hK 0 rfl dX7_addMovesOfOther_80 ?_
      refine aw_iload hK 5 rfl dX7_addMovesOfOther_82 ?_
      refine aw_cs hK (as := [q_i x4]) (trp_X7_toOf x4 _) gX7_addMovesOfOther_X7_toOf rfl (na := 1) (by decide +kernel) rfl ⟨by decide, by decide⟩ (Nat.zero_le _) (Nat.le_of_ble_eq_true rfl) dX7_addMovesOfOther_84 ?_
      refine aw_iadd hK dX7_addMovesOfOther_87 ?_
      obtain ⟨m6, h5, hF⟩ := calv_some hF
      refine aw_cv hK 1 (as := [q_i (y3 + (P_X7_fromOf x4)), q_i (8 : Int32), q_i (P_X7_lowerOf x4), q_i (m ((a1 + 1) + 2) (ix x3)), q_i (y3 + (P_X7_toOf x4))]) (tr_X1_addArc h5) gX7_addMovesOfOther_X1_addArc rfl rfl rfl (by decide) (na := 5) (by decide +kernel) rfl ⟨by decide, by decide⟩ (Nat.zero_le _) (Nat.le_of_ble_eq_true rfl) dX7_addMovesOfOther_88 ?_
      obtain ⟨y7, hy7, hF⟩ := bnd_some hF
      refine aw_iinc hK (cz := 1) 6 [(5, q_i y7), (6, q_i y3), (0, q_r 0), (1, q_r a1), (2, q_i x2), (3, q_i x3), (4, q_i x4)] (by decide) rfl rfl hy7 rfl dX7_addMovesOfOther_91 ?_
      refine aw_goto hK 37 rfl dX7_addMovesOfOther_94 ?_
      refine aw_sub [2, 3, 4, 5, 6, 0] (lv' := [(0, q_r 0), (1, q_r a1), (2, q_i x2), (3, q_i x3), (4, q_i x4), (5, q_i y7)]) rfl ?_
      exact hrec_37 hk1 hF
def S_X7_addMovesOfOther_2 (N : Nat) (rec_2 : Mem → Nat → Int32 → Int32 → Option Mem) (m : Mem) (a1 : Nat) (x2 : Int32) (x3 : Int32) : Option Mem :=
  if (m (a1 + 1) 2) ≤ x3 then (
    some m
  ) else (
    gd (inb x3 (alen ((a1 + 1) + 1))) <|
    bnd (m ((a1 + 1) + 1) (ix x3)) fun y2 =>
    if (P_X7_upperOf y2) = (8 : Int32) then (
      L_X7_addMovesOfOther_37 N rec_2 N m a1 x2 x3 y2 (0 : Int32)
    ) else (
      B_X7_addMovesOfOther_97 N rec_2 m a1 x2 x3
    )
  )
def L_X7_addMovesOfOther_2 (N : Nat) : Nat → Mem → Nat → Int32 → Int32 → Option Mem
  | 0 => fun _ _ _ _ => none
  | f + 1 => S_X7_addMovesOfOther_2 N (L_X7_addMovesOfOther_2 N f)
set_option maxRecDepth 100000 in
set_option maxHeartbeats 4000000 in
theorem lp_X7_addMovesOfOther_2 {N : Nat} {K : KT} {m' : Mem} (hK : KOK K cX7_addMovesOfOther 7 RX7 wsX7_addMovesOfOther 2 0 48) (hR : KRet K none none m') : ∀ (f : Nat) {m : Mem} {a1 : Nat} {x2 : Int32} {x3 : Int32} (hk1 : knd a1 = 3), L_X7_addMovesOfOther_2 N f m a1 x2 x3 = some m' → AW K 0 2 [(0, q_r 0), (1, q_r a1), (2, q_i x2), (3, q_i x3)] [] m := by
  intro f
  induction f with
  | zero => intro m a1 x2 x3 hk1 hF; cases hF
  | succ f hrec_2 =>
    intro m a1 x2 x3 hk1 hF
    have hF : S_X7_addMovesOfOther_2 N (L_X7_addMovesOfOther_2 N f) m a1 x2 x3 = some m' := hF
    unfold S_X7_addMovesOfOther_2 at hF
    refine aw_iload_n hK 3 rfl dX7_addMovesOfOther_2 ?_
    refine aw_aload_n hK 1 rfl dX7_addMovesOfOther_3 ?_
    refine gf_3_0 hK hk1 (a1 + 1) rfl (List.mem_of_getElem? (i := 1) rfl) dX7_addMovesOfOther_4 ?_
    refine gf_0_2 hK (kM1 hk1) (List.mem_of_getElem? (i := 2) rfl) dX7_addMovesOfOther_7 ?_
    refine aw_icmp_ge hK 103 rfl dX7_addMovesOfOther_10 (fun hc => ?_) (fun hc => ?_)
    · have hF := if_t hF hc
      obtain rfl := Option.some.inj hF
      exact aw_vret hK hR dX7_addMovesOfOther_103
    · have hF := if_f hF hc
      refine aw_aload_n hK 1 rfl dX7_addMovesOfOther_13 ?_
      refine gf_3_0 hK hk1 (a1 + 1) rfl (List.mem_of_getElem? (i := 1) rfl) dX7_addMovesOfOther_14 ?_
      refine gf_0_0 hK (kM1 hk1) ((a1 + 1) + 1) rfl (List.mem_of_getElem? (i := 3) rfl) dX7_addMovesOfOther_17 ?_
      refine aw_iload_n hK 3 rfl dX7_addMovesOfOther_20 ?_
      obtain ⟨g1, hF⟩ := gd_some hF
      refine aw_iald hK (kA1 (kM1 hk1)) g1 dX7_addMovesOfOther_21 ?_
      obtain ⟨y2, hy2, hF⟩ := bnd_some hF
      refine aw_nm hy2 ?_
      refine aw_istore hK [(4, q_i y2), (0, q_r 0), (1, q_r a1), (2, q_i x2), (3, q_i x3)] (by decide) rfl dX7_addMovesOfOther_22 ?_
      refine aw_iload hK 0 rfl dX7_addMovesOfOther_24 ?_
      refine aw_cs hK (as := [q_i y2]) (trp_X7_upperOf y2 _) gX7_addMovesOfOther_X7_upperOf rfl (na := 1) (by decide +kernel) rfl ⟨by decide, by decide⟩ (Nat.zero_le _) (Nat.le_of_ble_eq_true rfl) dX7_addMovesOfOther_26 ?_
      refine aw_bipush hK (8) rfl dX7_addMovesOfOther_29 ?_
      refine aw_icmp_ne hK 97 rfl dX7_addMovesOfOther_31 (fun hc => ?_) (fun hc => ?_)
      · have hF := if_f hF hc
        refine aw_sub [1, 2, 3, 4] (lv' := [(0, q_r 0), (1, q_r a1), (2, q_i x2), (3, q_i x3)]) rfl ?_
        exact bk_X7_addMovesOfOther_97 hK hR hrec_2 hk1 hF
      · have hF := if_t hF hc
        refine aw_iconst hK (0) rfl dX7_addMovesOfOther_34 ?_
        refine aw_istore hK [(5, q_i (0 : Int32)), (4, q_i y2), (0, q_r 0), (1, q_r a1), (2, q_i x2), (3, q_i x3)] (by decide) rfl dX7_addMovesOfOther_35 ?_
        refine aw_sub [2, 3, 4, 5, 1, 0] (lv' := [(0, q_r 0), (1, q_r a1), (2, q_i x2), (3, q_i x3), (4, q_i y2), (5, q_i (0 : Int32))]) rfl ?_
        exact lp_X7_addMovesOfOther_37 hK hR hrec_2 _ hk1 hF
def F_X7_addMovesOfOther (N : Nat) (m : Mem) (a1 : Nat) (x2 : Int32) : Option Mem :=
  L_X7_addMovesOfOther_2 N N m a1 x2 (0 : Int32)
set_option maxRecDepth 100000 in
set_option maxHeartbeats 4000000 in
theorem tr_X7_addMovesOfOther {N : Nat} {m m' : Mem} {a1 : Nat} {x2 : Int32} (hk1 : knd a1 = 3) (hF : F_X7_addMovesOfOther N m a1 x2 = some m') : Tr yX7_addMovesOfOther wsX7_addMovesOfOther 2 48 [q_r 0, q_r a1, q_i x2] m none m' := by
  refine tr_of (bytes := cX7_addMovesOfOther) (maxL := 7) (ret := none) (by decide) rfl (Nat.le_of_ble_eq_true rfl) (fun K hK hR => ?_)
  have hK : KOK K cX7_addMovesOfOther 7 RX7 wsX7_addMovesOfOther 2 0 48 := hK
  show AW K 0 0 [(0, q_r 0), (1, q_r a1), (2, q_i x2)] [] m
  unfold F_X7_addMovesOfOther at hF
  refine aw_iconst hK (0) rfl dX7_addMovesOfOther_0 ?_
  refine aw_istore_n hK [(3, q_i (0 : Int32)), (0, q_r 0), (1, q_r a1), (2, q_i x2)] (by decide) rfl dX7_addMovesOfOther_1 ?_
  refine aw_sub [1, 2, 3, 0] (lv' := [(0, q_r 0), (1, q_r a1), (2, q_i x2), (3, q_i (0 : Int32))]) rfl ?_
  exact lp_X7_addMovesOfOther_2 hK hR _ hk1 hF
def B_X7_addEndsOfBoth_35 (N : Nat) (rec_2 : Mem → Nat → Nat → Int32 → Option Mem) (m : Mem) (a1 : Nat) (a2 : Nat) (x3 : Int32) : Option Mem :=
  bnd (x3 + (1 : Int32)) fun y3 =>
  rec_2 m a1 a2 y3
set_option maxRecDepth 100000 in
set_option maxHeartbeats 4000000 in
theorem bk_X7_addEndsOfBoth_35 {N : Nat} {K : KT} {m' : Mem} {rec_2 : Mem → Nat → Nat → Int32 → Option Mem} (hK : KOK K cX7_addEndsOfBoth 4 RX7 wsX7_addEndsOfBoth 2 0 44) (hR : KRet K none none m') (hrec_2 : ∀ {m : Mem} {a1 : Nat} {a2 : Nat} {x3 : Int32} (hk1 : knd a1 = 3) (hk2 : knd a2 = 3), rec_2 m a1 a2 x3 = some m' → AW K 0 2 [(0, q_r 0), (1, q_r a1), (2, q_r a2), (3, q_i x3)] [] m) {m : Mem} {a1 : Nat} {a2 : Nat} {x3 : Int32} (hk1 : knd a1 = 3) (hk2 : knd a2 = 3) (hF : B_X7_addEndsOfBoth_35 N rec_2 m a1 a2 x3 = some m') : AW K 0 35 [(0, q_r 0), (1, q_r a1), (2, q_r a2), (3, q_i x3)] [] m := by
  unfold B_X7_addEndsOfBoth_35 at hF
  obtain ⟨y3, hy3, hF⟩ := bnd_some hF
  refine aw_iinc hK (cz := 1) 3 [(3, q_i y3), (0, q_r 0), (1, q_r a1), (2, q_r a2)] (by decide) rfl rfl hy3 rfl dX7_addEndsOfBoth_35 ?_
  refine aw_goto hK 2 rfl dX7_addEndsOfBoth_38 ?_
  refine aw_sub [1, 2, 3, 0] (lv' := [(0, q_r 0), (1, q_r a1), (2, q_r a2), (3, q_i y3)]) rfl ?_
  exact hrec_2 hk1 hk2 hF
def S_X7_addEndsOfBoth_2 (N : Nat) (rec_2 : Mem → Nat → Nat → Int32 → Option Mem) (m : Mem) (a1 : Nat) (a2 : Nat) (x3 : Int32) : Option Mem :=
  if (m a1 1) ≤ x3 then (
    some m
  ) else (
    if (P_X7_holds (m a1 2) x3) = (0 : Int32) then (
      B_X7_addEndsOfBoth_35 N rec_2 m a1 a2 x3
    ) else (
      calv (F_X1_addEndsOf N m a2 (x3 * (m a2 1))) fun m2 =>
      B_X7_addEndsOfBoth_35 N rec_2 m2 a1 a2 x3
    )
  )
def L_X7_addEndsOfBoth_2 (N : Nat) : Nat → Mem → Nat → Nat → Int32 → Option Mem
  | 0 => fun _ _ _ _ => none
  | f + 1 => S_X7_addEndsOfBoth_2 N (L_X7_addEndsOfBoth_2 N f)
set_option maxRecDepth 100000 in
set_option maxHeartbeats 4000000 in
theorem lp_X7_addEndsOfBoth_2 {N : Nat} {K : KT} {m' : Mem} (hK : KOK K cX7_addEndsOfBoth 4 RX7 wsX7_addEndsOfBoth 2 0 44) (hR : KRet K none none m') : ∀ (f : Nat) {m : Mem} {a1 : Nat} {a2 : Nat} {x3 : Int32} (hk1 : knd a1 = 3) (hk2 : knd a2 = 3), L_X7_addEndsOfBoth_2 N f m a1 a2 x3 = some m' → AW K 0 2 [(0, q_r 0), (1, q_r a1), (2, q_r a2), (3, q_i x3)] [] m := by
  intro f
  induction f with
  | zero => intro m a1 a2 x3 hk1 hk2 hF; cases hF
  | succ f hrec_2 =>
    intro m a1 a2 x3 hk1 hk2 hF
    have hF : S_X7_addEndsOfBoth_2 N (L_X7_addEndsOfBoth_2 N f) m a1 a2 x3 = some m' := hF
    unfold S_X7_addEndsOfBoth_2 at hF
    refine aw_iload_n hK 3 rfl dX7_addEndsOfBoth_2 ?_
    refine aw_aload_n hK 1 rfl dX7_addEndsOfBoth_3 ?_
    refine gf_3_1 hK hk1 (List.mem_of_getElem? (i := 1) rfl) dX7_addEndsOfBoth_4 ?_
    refine aw_icmp_ge hK 41 rfl dX7_addEndsOfBoth_7 (fun hc => ?_) (fun hc => ?_)
    · have hF := if_t hF hc
      obtain rfl := Option.some.inj hF
      exact aw_vret hK hR dX7_addEndsOfBoth_41
    · have hF := if_f hF hc
      refine aw_aload_n hK 1 rfl dX7_addEndsOfBoth_10 ?_
      refine gf_3_2 hK hk1 (List.mem_of_getElem? (i := 2) rfl) dX7_addEndsOfBoth_11 ?_
      refine aw_iload_n hK 3 rfl dX7_addEndsOfBoth_14 ?_
      refine aw_cs hK (as := [q_i (m a1 2), q_i x3]) (trp_X7_holds (m a1 2) x3 _) gX7_addEndsOfBoth_X7_holds rfl (na := 2) (by decide +kernel) rfl ⟨by decide, by decide⟩ (Nat.zero_le _) (Nat.le_of_ble_eq_true rfl) dX7_addEndsOfBoth_15 ?_
      refine aw_if_eq hK 35 rfl dX7_addEndsOfBoth_18 (fun hc => ?_) (fun hc => ?_)
      · have hF := if_t hF hc
        refine aw_sub [0, 1, 2, 3] (lv' := [(0, q_r 0), (1, q_r a1), (2, q_r a2), (3, q_i x3)]) rfl ?_
        exact bk_X7_addEndsOfBoth_35 hK hR hrec_2 hk1 hk2 hF
      · have hF := if_f hF hc
        refine aw_aload_n hK 0 rfl dX7_addEndsOfBoth_21 ?_
        refine gf_7_4 hK rfl (3) rfl (List.mem_of_getElem? (i := 3) rfl) dX7_addEndsOfBoth_22 ?_
        refine aw_aload_n hK 2 rfl dX7_addEndsOfBoth_25 ?_
        refine aw_iload_n hK 3 rfl dX7_addEndsOfBoth_26 ?_
        refine aw_aload_n hK 2 rfl dX7_addEndsOfBoth_27 ?_
        refine gf_3_1 hK hk2 (List.mem_of_getElem? (i := 1) rfl) dX7_addEndsOfBoth_28 ?_
        refine aw_imul hK dX7_addEndsOfBoth_31 ?_
        obtain ⟨m2, h1, hF⟩ := calv_some hF
        refine aw_cv hK 1 (as := [q_r a2, q_i (x3 * (m a2 1))]) (tr_X1_addEndsOf hk2 h1) gX7_addEndsOfBoth_X1_addEndsOf rfl rfl rfl (by decide) (na := 2) (by decide +kernel) rfl ⟨by decide, by decide⟩ (Nat.zero_le _) (Nat.le_of_ble_eq_true rfl) dX7_addEndsOfBoth_32 ?_
        refine aw_sub [0, 1, 2, 3] (lv' := [(0, q_r 0), (1, q_r a1), (2, q_r a2), (3, q_i x3)]) rfl ?_
        exact bk_X7_addEndsOfBoth_35 hK hR hrec_2 hk1 hk2 hF
def F_X7_addEndsOfBoth (N : Nat) (m : Mem) (a1 : Nat) (a2 : Nat) : Option Mem :=
  L_X7_addEndsOfBoth_2 N N m a1 a2 (0 : Int32)
set_option maxRecDepth 100000 in
set_option maxHeartbeats 4000000 in
theorem tr_X7_addEndsOfBoth {N : Nat} {m m' : Mem} {a1 : Nat} {a2 : Nat} (hk1 : knd a1 = 3) (hk2 : knd a2 = 3) (hF : F_X7_addEndsOfBoth N m a1 a2 = some m') : Tr yX7_addEndsOfBoth wsX7_addEndsOfBoth 2 44 [q_r 0, q_r a1, q_r a2] m none m' := by
  refine tr_of (bytes := cX7_addEndsOfBoth) (maxL := 4) (ret := none) (by decide) rfl (Nat.le_of_ble_eq_true rfl) (fun K hK hR => ?_)
  have hK : KOK K cX7_addEndsOfBoth 4 RX7 wsX7_addEndsOfBoth 2 0 44 := hK
  show AW K 0 0 [(0, q_r 0), (1, q_r a1), (2, q_r a2)] [] m
  unfold F_X7_addEndsOfBoth at hF
  refine aw_iconst hK (0) rfl dX7_addEndsOfBoth_0 ?_
  refine aw_istore_n hK [(3, q_i (0 : Int32)), (0, q_r 0), (1, q_r a1), (2, q_r a2)] (by decide) rfl dX7_addEndsOfBoth_1 ?_
  refine aw_sub [1, 2, 3, 0] (lv' := [(0, q_r 0), (1, q_r a1), (2, q_r a2), (3, q_i (0 : Int32))]) rfl ?_
  exact lp_X7_addEndsOfBoth_2 hK hR _ hk1 hk2 hF
def B_X3_hasPlainArcsAlone_46 (N : Nat) (m : Mem) : Option (Int32 × Mem) :=
  some ((0 : Int32), m)
set_option maxRecDepth 100000 in
set_option maxHeartbeats 4000000 in
theorem bk_X3_hasPlainArcsAlone_46 {N : Nat} {K : KT} {m' : Mem} {r : Int32} (hK : KOK K cX3_hasPlainArcsAlone 3 RX3 wsX3_hasPlainArcsAlone 1 0 20) (hR : KRet K (some .boolean) (some r) m') {m : Mem} (hF : B_X3_hasPlainArcsAlone_46 N m = some (r, m')) : AW K 0 46 [] [] m := by
  unfold B_X3_hasPlainArcsAlone_46 at hF
  refine aw_iconst hK (0) rfl dX3_hasPlainArcsAlone_46 ?_
  obtain ⟨rfl, rfl⟩ := so_inj hF
  exact aw_iret hK hR rfl dX3_hasPlainArcsAlone_47
def S_X3_hasPlainArcsAlone_2 (N : Nat) (rec_2 : Mem → Nat → Int32 → Option (Int32 × Mem)) (m : Mem) (a0 : Nat) (x1 : Int32) : Option (Int32 × Mem) :=
  if (m (a0 + 1) 2) ≤ x1 then (
    some ((1 : Int32), m)
  ) else (
    gd (inb x1 (alen ((a0 + 1) + 1))) <|
    bnd (m ((a0 + 1) + 1) (ix x1)) fun y2 =>
    if (P_X7_upperOf y2) = (P_X7_lowerOf y2) then (
      gd (inb x1 (alen ((a0 + 1) + 2))) <|
      if (m ((a0 + 1) + 2) (ix x1)) = (0 : Int32) then (
        bnd (x1 + (1 : Int32)) fun y4 =>
        rec_2 m a0 y4
      ) else (
        B_X3_hasPlainArcsAlone_46 N m
      )
    ) else (
      B_X3_hasPlainArcsAlone_46 N m
    )
  )
def L_X3_hasPlainArcsAlone_2 (N : Nat) : Nat → Mem → Nat → Int32 → Option (Int32 × Mem)
  | 0 => fun _ _ _ => none
  | f + 1 => S_X3_hasPlainArcsAlone_2 N (L_X3_hasPlainArcsAlone_2 N f)
set_option maxRecDepth 100000 in
set_option maxHeartbeats 4000000 in
theorem lp_X3_hasPlainArcsAlone_2 {N : Nat} {K : KT} {m' : Mem} {r : Int32} (hK : KOK K cX3_hasPlainArcsAlone 3 RX3 wsX3_hasPlainArcsAlone 1 0 20) (hR : KRet K (some .boolean) (some r) m') : ∀ (f : Nat) {m : Mem} {a0 : Nat} {x1 : Int32} (hk0 : knd a0 = 3), L_X3_hasPlainArcsAlone_2 N f m a0 x1 = some (r, m') → AW K 0 2 [(0, q_r a0), (1, q_i x1)] [] m := by
  intro f
  induction f with
  | zero => intro m a0 x1 hk0 hF; cases hF
  | succ f hrec_2 =>
    intro m a0 x1 hk0 hF
    have hF : S_X3_hasPlainArcsAlone_2 N (L_X3_hasPlainArcsAlone_2 N f) m a0 x1 = some (r, m') := hF
    unfold S_X3_hasPlainArcsAlone_2 at hF
    refine aw_iload_n hK 1 rfl dX3_hasPlainArcsAlone_2 ?_
    refine aw_aload_n hK 0 rfl dX3_hasPlainArcsAlone_3 ?_
    refine gf_3_0 hK hk0 (a0 + 1) rfl (List.mem_of_getElem? (i := 1) rfl) dX3_hasPlainArcsAlone_4 ?_
    refine gf_0_2 hK (kM1 hk0) (List.mem_of_getElem? (i := 2) rfl) dX3_hasPlainArcsAlone_7 ?_
    refine aw_icmp_ge hK 54 rfl dX3_hasPlainArcsAlone_10 (fun hc => ?_) (fun hc => ?_)
    · have hF := if_t hF hc
      refine aw_iconst hK (1) rfl dX3_hasPlainArcsAlone_54 ?_
      obtain ⟨rfl, rfl⟩ := so_inj hF
      exact aw_iret hK hR rfl dX3_hasPlainArcsAlone_55
    · have hF := if_f hF hc
      refine aw_aload_n hK 0 rfl dX3_hasPlainArcsAlone_13 ?_
      refine gf_3_0 hK hk0 (a0 + 1) rfl (List.mem_of_getElem? (i := 1) rfl) dX3_hasPlainArcsAlone_14 ?_
      refine gf_0_0 hK (kM1 hk0) ((a0 + 1) + 1) rfl (List.mem_of_getElem? (i := 3) rfl) dX3_hasPlainArcsAlone_17 ?_
      refine aw_iload_n hK 1 rfl dX3_hasPlainArcsAlone_20 ?_
      obtain ⟨g1, hF⟩ := gd_some hF
      refine aw_iald hK (kA1 (kM1 hk0)) g1 dX3_hasPlainArcsAlone_21 ?_
      obtain ⟨y2, hy2, hF⟩ := bnd_some hF
      refine aw_nm hy2 ?_
      refine aw_istore_n hK [(2, q_i y2), (0, q_r a0), (1, q_i x1)] (by decide) rfl dX3_hasPlainArcsAlone_22 ?_
      refine aw_iload_n hK 0 rfl dX3_hasPlainArcsAlone_23 ?_
      refine aw_csN hK (as := [q_i y2]) (host := "AffixWorks") (trp_X7_upperOf y2 _) gX3_hasPlainArcsAlone_X7_upperOf_n32 rfl (List.mem_of_getElem? (i := 14) rfl) (List.mem_of_getElem? (i := 6) rfl) (List.mem_of_getElem? (i := 5) rfl) (na := 1) (by decide +kernel) rfl ⟨by decide, by decide⟩ (Nat.zero_le _) (Nat.le_of_ble_eq_true rfl) dX3_hasPlainArcsAlone_24 ?_
      refine aw_iload_n hK 0 rfl dX3_hasPlainArcsAlone_27 ?_
      refine aw_csN hK (as := [q_i y2]) (host := "AffixWorks") (trp_X7_lowerOf y2 _) gX3_hasPlainArcsAlone_X7_lowerOf_n36 rfl (List.mem_of_getElem? (i := 15) rfl) (List.mem_of_getElem? (i := 6) rfl) (List.mem_of_getElem? (i := 8) rfl) (na := 1) (by decide +kernel) rfl ⟨by decide, by decide⟩ (Nat.zero_le _) (Nat.le_of_ble_eq_true rfl) dX3_hasPlainArcsAlone_28 ?_
      refine aw_icmp_ne hK 46 rfl dX3_hasPlainArcsAlone_31 (fun hc => ?_) (fun hc => ?_)
      · have hF := if_f hF hc
        refine aw_sub [] (lv' := []) rfl ?_
        exact bk_X3_hasPlainArcsAlone_46 hK hR hF
      · have hF := if_t hF hc
        refine aw_aload_n hK 1 rfl dX3_hasPlainArcsAlone_34 ?_
        refine gf_3_0 hK hk0 (a0 + 1) rfl (List.mem_of_getElem? (i := 1) rfl) dX3_hasPlainArcsAlone_35 ?_
        refine gf_0_1 hK (kM1 hk0) ((a0 + 1) + 2) rfl (List.mem_of_getElem? (i := 4) rfl) dX3_hasPlainArcsAlone_38 ?_
        refine aw_iload_n hK 2 rfl dX3_hasPlainArcsAlone_41 ?_
        obtain ⟨g3, hF⟩ := gd_some hF
        refine aw_iald hK (kA2 (kM1 hk0)) g3 dX3_hasPlainArcsAlone_42 ?_
        refine aw_if_eq hK 48 rfl dX3_hasPlainArcsAlone_43 (fun hc => ?_) (fun hc => ?_)
        · have hF := if_t hF hc
          obtain ⟨y4, hy4, hF⟩ := bnd_some hF
          refine aw_iinc hK (cz := 1) 2 [(1, q_i y4), (2, q_i y2), (0, q_r a0)] (by decide) rfl rfl hy4 rfl dX3_hasPlainArcsAlone_48 ?_
          refine aw_goto hK 2 rfl dX3_hasPlainArcsAlone_51 ?_
          refine aw_sub [2, 0] (lv' := [(0, q_r a0), (1, q_i y4)]) rfl ?_
          exact hrec_2 hk0 hF
        · have hF := if_f hF hc
          refine aw_sub [] (lv' := []) rfl ?_
          exact bk_X3_hasPlainArcsAlone_46 hK hR hF
def F_X3_hasPlainArcsAlone (N : Nat) (m : Mem) (a0 : Nat) : Option (Int32 × Mem) :=
  L_X3_hasPlainArcsAlone_2 N N m a0 (0 : Int32)
set_option maxRecDepth 100000 in
set_option maxHeartbeats 4000000 in
theorem tr_X3_hasPlainArcsAlone {N : Nat} {m m' : Mem} {r : Int32} {a0 : Nat} (hk0 : knd a0 = 3) (hF : F_X3_hasPlainArcsAlone N m a0 = some (r, m')) : Tr yX3_hasPlainArcsAlone wsX3_hasPlainArcsAlone 1 20 [q_r a0] m (some r) m' := by
  refine tr_of (bytes := cX3_hasPlainArcsAlone) (maxL := 3) (ret := (some .boolean)) (by decide) rfl (Nat.le_of_ble_eq_true rfl) (fun K hK hR => ?_)
  have hK : KOK K cX3_hasPlainArcsAlone 3 RX3 wsX3_hasPlainArcsAlone 1 0 20 := hK
  show AW K 0 0 [(0, q_r a0)] [] m
  unfold F_X3_hasPlainArcsAlone at hF
  refine aw_iconst hK (0) rfl dX3_hasPlainArcsAlone_0 ?_
  refine aw_istore_n hK [(1, q_i (0 : Int32)), (0, q_r a0)] (by decide) rfl dX3_hasPlainArcsAlone_1 ?_
  refine aw_sub [1, 0] (lv' := [(0, q_r a0), (1, q_i (0 : Int32))]) rfl ?_
  exact lp_X3_hasPlainArcsAlone_2 hK hR _ hk0 hF
def B_X6_findClosures_144 (N : Nat) (m : Mem) : Option Mem :=
  some m
set_option maxRecDepth 100000 in
set_option maxHeartbeats 4000000 in
theorem bk_X6_findClosures_144 {N : Nat} {K : KT} {m' : Mem} (hK : KOK K cX6_findClosures 7 RX6 wsX6_findClosures 1 0 20) (hR : KRet K none none m') {m : Mem} (hF : B_X6_findClosures_144 N m = some m') : AW K 0 144 [] [] m := by
  unfold B_X6_findClosures_144 at hF
  obtain rfl := Option.some.inj hF
  exact aw_vret hK hR dX6_findClosures_144
def B_X6_findClosures_132 (N : Nat) (rec_29 : Mem → Nat → Nat → Int32 → Int32 → Option Mem) (rec_46 : Mem → Nat → Nat → Int32 → Int32 → Int32 → Option Mem) (m : Mem) (a0 : Nat) (a1 : Nat) (x2 : Int32) (x3 : Int32) (x4 : Int32) : Option Mem :=
  bnd (x4 + (1 : Int32)) fun y13 =>
  rec_46 m a0 a1 x2 x3 y13
set_option maxRecDepth 100000 in
set_option maxHeartbeats 4000000 in
theorem bk_X6_findClosures_132 {N : Nat} {K : KT} {m' : Mem} {rec_29 : Mem → Nat → Nat → Int32 → Int32 → Option Mem} {rec_46 : Mem → Nat → Nat → Int32 → Int32 → Int32 → Option Mem} (hK : KOK K cX6_findClosures 7 RX6 wsX6_findClosures 1 0 20) (hR : KRet K none none m') (hrec_29 : ∀ {m : Mem} {a0 : Nat} {a1 : Nat} {x2 : Int32} {x3 : Int32} (hk0 : knd a0 = 6) (hk1 : knd a1 = 3), rec_29 m a0 a1 x2 x3 = some m' → AW K 0 29 [(0, q_r a0), (1, q_r a1), (2, q_i x2), (3, q_i x3)] [] m) (hrec_46 : ∀ {m : Mem} {a0 : Nat} {a1 : Nat} {x2 : Int32} {x3 : Int32} {x4 : Int32} (hk0 : knd a0 = 6) (hk1 : knd a1 = 3), rec_46 m a0 a1 x2 x3 x4 = some m' → AW K 0 46 [(0, q_r a0), (1, q_r a1), (2, q_i x2), (3, q_i x3), (4, q_i x4)] [] m) {m : Mem} {a0 : Nat} {a1 : Nat} {x2 : Int32} {x3 : Int32} {x4 : Int32} (hk0 : knd a0 = 6) (hk1 : knd a1 = 3) (hF : B_X6_findClosures_132 N rec_29 rec_46 m a0 a1 x2 x3 x4 = some m') : AW K 0 132 [(0, q_r a0), (1, q_r a1), (2, q_i x2), (3, q_i x3), (4, q_i x4)] [] m := by
  unfold B_X6_findClosures_132 at hF
  obtain ⟨y13, hy13, hF⟩ := bnd_some hF
  refine aw_iinc hK (cz := 1) 4 [(4, q_i y13), (0, q_r a0), (1, q_r a1), (2, q_i x2), (3, q_i x3)] (by decide) rfl rfl hy13 rfl dX6_findClosures_132 ?_
  refine aw_goto hK 46 rfl dX6_findClosures_135 ?_
  refine aw_sub [1, 2, 3, 4, 0] (lv' := [(0, q_r a0), (1, q_r a1), (2, q_i x2), (3, q_i x3), (4, q_i y13)]) rfl ?_
  exact hrec_46 hk0 hk1 hF
def S_X6_findClosures_46 (N : Nat) (rec_29 : Mem → Nat → Nat → Int32 → Int32 → Option Mem) (rec_46 : Mem → Nat → Nat → Int32 → Int32 → Int32 → Option Mem) (m : Mem) (a0 : Nat) (a1 : Nat) (x2 : Int32) (x3 : Int32) (x4 : Int32) : Option Mem :=
  if (m (a1 + 1) 2) ≤ x4 then (
    bnd (x3 + (1 : Int32)) fun y4 =>
    rec_29 m a0 a1 x2 y4
  ) else (
    gd (inb x4 (alen ((a1 + 1) + 1))) <|
    bnd (m ((a1 + 1) + 1) (ix x4)) fun y6 =>
    gd (inb (P_X7_fromOf y6) (alen (a0 + 1))) <|
    gd (inb (P_X7_toOf y6) (alen (a0 + 1))) <|
    bnd ((m (a0 + 1) (ix (P_X7_fromOf y6))) ||| (m (a0 + 1) (ix (P_X7_toOf y6)))) fun y9 =>
    if (P_X7_upperOf y6) = (8 : Int32) then (
      gd (inb (P_X7_fromOf y6) (alen (a0 + 1))) <|
      if y9 = (m (a0 + 1) (ix (P_X7_fromOf y6))) then (
        B_X6_findClosures_132 N rec_29 rec_46 m a0 a1 x2 x3 x4
      ) else (
        gd (inb (P_X7_fromOf y6) (alen (a0 + 1))) <|
        bnd (mup m (a0 + 1) (ix (P_X7_fromOf y6)) y9) fun m12 =>
        B_X6_findClosures_132 N rec_29 rec_46 m12 a0 a1 (1 : Int32) x3 x4
      )
    ) else (
      B_X6_findClosures_132 N rec_29 rec_46 m a0 a1 x2 x3 x4
    )
  )
def L_X6_findClosures_46 (N : Nat) (rec_29 : Mem → Nat → Nat → Int32 → Int32 → Option Mem) : Nat → Mem → Nat → Nat → Int32 → Int32 → Int32 → Option Mem
  | 0 => fun _ _ _ _ _ _ => none
  | f + 1 => S_X6_findClosures_46 N rec_29 (L_X6_findClosures_46 N rec_29 f)
set_option maxRecDepth 100000 in
set_option maxHeartbeats 4000000 in
theorem lp_X6_findClosures_46 {N : Nat} {K : KT} {m' : Mem} {rec_29 : Mem → Nat → Nat → Int32 → Int32 → Option Mem} (hK : KOK K cX6_findClosures 7 RX6 wsX6_findClosures 1 0 20) (hR : KRet K none none m') (hrec_29 : ∀ {m : Mem} {a0 : Nat} {a1 : Nat} {x2 : Int32} {x3 : Int32} (hk0 : knd a0 = 6) (hk1 : knd a1 = 3), rec_29 m a0 a1 x2 x3 = some m' → AW K 0 29 [(0, q_r a0), (1, q_r a1), (2, q_i x2), (3, q_i x3)] [] m) : ∀ (f : Nat) {m : Mem} {a0 : Nat} {a1 : Nat} {x2 : Int32} {x3 : Int32} {x4 : Int32} (hk0 : knd a0 = 6) (hk1 : knd a1 = 3), L_X6_findClosures_46 N rec_29 f m a0 a1 x2 x3 x4 = some m' → AW K 0 46 [(0, q_r a0), (1, q_r a1), (2, q_i x2), (3, q_i x3), (4, q_i x4)] [] m := by
  intro f
  induction f with
  | zero => intro m a0 a1 x2 x3 x4 hk0 hk1 hF; cases hF
  | succ f hrec_46 =>
    intro m a0 a1 x2 x3 x4 hk0 hk1 hF
    have hF : S_X6_findClosures_46 N rec_29 (L_X6_findClosures_46 N rec_29 f) m a0 a1 x2 x3 x4 = some m' := hF
    unfold S_X6_findClosures_46 at hF
    refine aw_iload hK 4 rfl dX6_findClosures_46 ?_
    refine aw_aload_n hK 1 rfl dX6_findClosures_48 ?_
    refine gf_3_0 hK hk1 (a1 + 1) rfl (List.mem_of_getElem? (i := 3) rfl) dX6_findClosures_49 ?_
    refine gf_0_2 hK (kM1 hk1) (List.mem_of_getElem? (i := 4) rfl) dX6_findClosures_52 ?_
    refine aw_icmp_ge hK 138 rfl dX6_findClosures_55 (fun hc => ?_) (fun hc => ?_)
    · have hF := if_t hF hc
      obtain ⟨y4, hy4, hF⟩ := bnd_some hF
      refine aw_iinc hK (cz := 1) 3 [(3, q_i y4), (0, q_r a0), (1, q_r a1), (2, q_i x2), (4, q_i x4)] (by decide) rfl rfl hy4 rfl dX6_findClosures_138 ?_
      refine aw_goto hK 29 rfl dX6_findClosures_141 ?_
      refine aw_sub [1, 2, 3, 0] (lv' := [(0, q_r a0), (1, q_r a1), (2, q_i x2), (3, q_i y4)]) rfl ?_
      exact hrec_29 hk0 hk1 hF
    · have hF := if_f hF hc
      refine aw_aload_n hK 1 rfl dX6_findClosures_58 ?_
      refine gf_3_0 hK hk1 (a1 + 1) rfl (List.mem_of_getElem? (i := 3) rfl) dX6_findClosures_59 ?_
      refine gf_0_0 hK (kM1 hk1) ((a1 + 1) + 1) rfl (List.mem_of_getElem? (i := 5) rfl) dX6_findClosures_62 ?_
      refine aw_iload hK 4 rfl dX6_findClosures_65 ?_
      obtain ⟨g5, hF⟩ := gd_some hF
      refine aw_iald hK (kA1 (kM1 hk1)) g5 dX6_findClosures_67 ?_
      obtain ⟨y6, hy6, hF⟩ := bnd_some hF
      refine aw_nm hy6 ?_
      refine aw_istore hK [(5, q_i y6), (0, q_r a0), (1, q_r a1), (2, q_i x2), (3, q_i x3), (4, q_i x4)] (by decide) rfl dX6_findClosures_68 ?_
      refine aw_aload_n hK 1 rfl dX6_findClosures_70 ?_
      refine gf_6_0 hK hk0 (a0 + 1) rfl (List.mem_of_getElem? (i := 2) rfl) dX6_findClosures_71 ?_
      refine aw_iload hK 0 rfl dX6_findClosures_74 ?_
      refine aw_csN hK (as := [q_i y6]) (host := "AffixWorks") (trp_X7_fromOf y6 _) gX6_findClosures_X7_fromOf_n49 rfl (List.mem_of_getElem? (i := 27) rfl) (List.mem_of_getElem? (i := 7) rfl) (List.mem_of_getElem? (i := 6) rfl) (na := 1) (by decide +kernel) rfl ⟨by decide, by decide⟩ (Nat.zero_le _) (Nat.le_of_ble_eq_true rfl) dX6_findClosures_76 ?_
      obtain ⟨g7, hF⟩ := gd_some hF
      refine aw_iald hK (kS1 hk0) g7 dX6_findClosures_79 ?_
      refine aw_aload_n hK 1 rfl dX6_findClosures_80 ?_
      refine gf_6_0 hK hk0 (a0 + 1) rfl (List.mem_of_getElem? (i := 2) rfl) dX6_findClosures_81 ?_
      refine aw_iload hK 0 rfl dX6_findClosures_84 ?_
      refine aw_csN hK (as := [q_i y6]) (host := "AffixWorks") (trp_X7_toOf y6 _) gX6_findClosures_X7_toOf_n52 rfl (List.mem_of_getElem? (i := 28) rfl) (List.mem_of_getElem? (i := 7) rfl) (List.mem_of_getElem? (i := 9) rfl) (na := 1) (by decide +kernel) rfl ⟨by decide, by decide⟩ (Nat.zero_le _) (Nat.le_of_ble_eq_true rfl) dX6_findClosures_86 ?_
      obtain ⟨g8, hF⟩ := gd_some hF
      refine aw_iald hK (kS1 hk0) g8 dX6_findClosures_89 ?_
      refine aw_ior hK dX6_findClosures_90 ?_
      obtain ⟨y9, hy9, hF⟩ := bnd_some hF
      refine aw_nm hy9 ?_
      refine aw_istore hK [(6, q_i y9), (5, q_i y6), (0, q_r a0), (1, q_r a1), (2, q_i x2), (3, q_i x3), (4, q_i x4)] (by decide) rfl dX6_findClosures_91 ?_
      refine aw_iload hK 1 rfl dX6_findClosures_93 ?_
      refine aw_csN hK (as := [q_i y6]) (host := "AffixWorks") (trp_X7_upperOf y6 _) gX6_findClosures_X7_upperOf_n45 rfl (List.mem_of_getElem? (i := 26) rfl) (List.mem_of_getElem? (i := 7) rfl) (List.mem_of_getElem? (i := 11) rfl) (na := 1) (by decide +kernel) rfl ⟨by decide, by decide⟩ (Nat.zero_le _) (Nat.le_of_ble_eq_true rfl) dX6_findClosures_95 ?_
      refine aw_bipush hK (8) rfl dX6_findClosures_98 ?_
      refine aw_icmp_ne hK 132 rfl dX6_findClosures_100 (fun hc => ?_) (fun hc => ?_)
      · have hF := if_f hF hc
        refine aw_sub [2, 3, 4, 5, 6] (lv' := [(0, q_r a0), (1, q_r a1), (2, q_i x2), (3, q_i x3), (4, q_i x4)]) rfl ?_
        exact bk_X6_findClosures_132 hK hR hrec_29 hrec_46 hk0 hk1 hF
      · have hF := if_t hF hc
        refine aw_iload hK 0 rfl dX6_findClosures_103 ?_
        refine aw_aload_n hK 2 rfl dX6_findClosures_105 ?_
        refine gf_6_0 hK hk0 (a0 + 1) rfl (List.mem_of_getElem? (i := 2) rfl) dX6_findClosures_106 ?_
        refine aw_iload hK 1 rfl dX6_findClosures_109 ?_
        refine aw_csN hK (as := [q_i y6]) (host := "AffixWorks") (trp_X7_fromOf y6 _) gX6_findClosures_X7_fromOf_n49 rfl (List.mem_of_getElem? (i := 27) rfl) (List.mem_of_getElem? (i := 7) rfl) (List.mem_of_getElem? (i := 6) rfl) (na := 1) (by decide +kernel) rfl ⟨by decide, by decide⟩ (Nat.zero_le _) (Nat.le_of_ble_eq_true rfl) dX6_findClosures_111 ?_
        obtain ⟨g10, hF⟩ := gd_some hF
        refine aw_iald hK (kS1 hk0) g10 dX6_findClosures_114 ?_
        refine aw_icmp_eq hK 132 rfl dX6_findClosures_115 (fun hc => ?_) (fun hc => ?_)
        · have hF := if_t hF hc
          refine aw_sub [2, 3, 4, 5, 6] (lv' := [(0, q_r a0), (1, q_r a1), (2, q_i x2), (3, q_i x3), (4, q_i x4)]) rfl ?_
          exact bk_X6_findClosures_132 hK hR hrec_29 hrec_46 hk0 hk1 hF
        · have hF := if_f hF hc
          refine aw_aload_n hK 2 rfl dX6_findClosures_118 ?_
          refine gf_6_0 hK hk0 (a0 + 1) rfl (List.mem_of_getElem? (i := 2) rfl) dX6_findClosures_119 ?_
          refine aw_iload hK 1 rfl dX6_findClosures_122 ?_
          refine aw_csN hK (as := [q_i y6]) (host := "AffixWorks") (trp_X7_fromOf y6 _) gX6_findClosures_X7_fromOf_n49 rfl (List.mem_of_getElem? (i := 27) rfl) (List.mem_of_getElem? (i := 7) rfl) (List.mem_of_getElem? (i := 6) rfl) (na := 1) (by decide +kernel) rfl ⟨by decide, by decide⟩ (Nat.zero_le _) (Nat.le_of_ble_eq_true rfl) dX6_findClosures_124 ?_
          refine aw_iload hK 0 rfl dX6_findClosures_127 ?_
          obtain ⟨g11, hF⟩ := gd_some hF
          refine aw_iast hK (kS1 hk0) g11 dX6_findClosures_129 ?_
          obtain ⟨m12, hm12, hF⟩ := bnd_some hF
          refine aw_mm hm12 ?_
          refine aw_iconst hK (1) rfl dX6_findClosures_130 ?_
          refine aw_istore_n hK [(2, q_i (1 : Int32)), (6, q_i y9), (5, q_i y6), (0, q_r a0), (1, q_r a1), (3, q_i x3), (4, q_i x4)] (by decide) rfl dX6_findClosures_131 ?_
          refine aw_sub [3, 4, 0, 5, 6] (lv' := [(0, q_r a0), (1, q_r a1), (2, q_i (1 : Int32)), (3, q_i x3), (4, q_i x4)]) rfl ?_
          exact bk_X6_findClosures_132 hK hR hrec_29 hrec_46 hk0 hk1 hF
def S_X6_findClosures_29 (N : Nat) (rec_29 : Mem → Nat → Nat → Int32 → Int32 → Option Mem) (m : Mem) (a0 : Nat) (a1 : Nat) (x2 : Int32) (x3 : Int32) : Option Mem :=
  if x2 = (0 : Int32) then (
    B_X6_findClosures_144 N m
  ) else (
    if (m a0 2) ≤ x3 then (
      B_X6_findClosures_144 N m
    ) else (
      L_X6_findClosures_46 N rec_29 N m a0 a1 (0 : Int32) x3 (0 : Int32)
    )
  )
def L_X6_findClosures_29 (N : Nat) : Nat → Mem → Nat → Nat → Int32 → Int32 → Option Mem
  | 0 => fun _ _ _ _ _ => none
  | f + 1 => S_X6_findClosures_29 N (L_X6_findClosures_29 N f)
set_option maxRecDepth 100000 in
set_option maxHeartbeats 4000000 in
theorem lp_X6_findClosures_29 {N : Nat} {K : KT} {m' : Mem} (hK : KOK K cX6_findClosures 7 RX6 wsX6_findClosures 1 0 20) (hR : KRet K none none m') : ∀ (f : Nat) {m : Mem} {a0 : Nat} {a1 : Nat} {x2 : Int32} {x3 : Int32} (hk0 : knd a0 = 6) (hk1 : knd a1 = 3), L_X6_findClosures_29 N f m a0 a1 x2 x3 = some m' → AW K 0 29 [(0, q_r a0), (1, q_r a1), (2, q_i x2), (3, q_i x3)] [] m := by
  intro f
  induction f with
  | zero => intro m a0 a1 x2 x3 hk0 hk1 hF; cases hF
  | succ f hrec_29 =>
    intro m a0 a1 x2 x3 hk0 hk1 hF
    have hF : S_X6_findClosures_29 N (L_X6_findClosures_29 N f) m a0 a1 x2 x3 = some m' := hF
    unfold S_X6_findClosures_29 at hF
    refine aw_iload_n hK 2 rfl dX6_findClosures_29 ?_
    refine aw_if_eq hK 144 rfl dX6_findClosures_30 (fun hc => ?_) (fun hc => ?_)
    · have hF := if_t hF hc
      refine aw_sub [] (lv' := []) rfl ?_
      exact bk_X6_findClosures_144 hK hR hF
    · have hF := if_f hF hc
      refine aw_iload_n hK 3 rfl dX6_findClosures_33 ?_
      refine aw_aload_n hK 0 rfl dX6_findClosures_34 ?_
      refine gf_6_2 hK hk0 (List.mem_of_getElem? (i := 1) rfl) dX6_findClosures_35 ?_
      refine aw_icmp_ge hK 144 rfl dX6_findClosures_38 (fun hc => ?_) (fun hc => ?_)
      · have hF := if_t hF hc
        refine aw_sub [] (lv' := []) rfl ?_
        exact bk_X6_findClosures_144 hK hR hF
      · have hF := if_f hF hc
        refine aw_iconst hK (0) rfl dX6_findClosures_41 ?_
        refine aw_istore_n hK [(2, q_i (0 : Int32)), (0, q_r a0), (1, q_r a1), (3, q_i x3)] (by decide) rfl dX6_findClosures_42 ?_
        refine aw_iconst hK (0) rfl dX6_findClosures_43 ?_
        refine aw_istore hK [(4, q_i (0 : Int32)), (2, q_i (0 : Int32)), (0, q_r a0), (1, q_r a1), (3, q_i x3)] (by decide) rfl dX6_findClosures_44 ?_
        refine aw_sub [2, 3, 1, 4, 0] (lv' := [(0, q_r a0), (1, q_r a1), (2, q_i (0 : Int32)), (3, q_i x3), (4, q_i (0 : Int32))]) rfl ?_
        exact lp_X6_findClosures_46 hK hR hrec_29 _ hk0 hk1 hF
def S_X6_findClosures_2 (N : Nat) (rec_2 : Mem → Nat → Nat → Int32 → Option Mem) (m : Mem) (a0 : Nat) (a1 : Nat) (x2 : Int32) : Option Mem :=
  if (m a0 2) ≤ x2 then (
    L_X6_findClosures_29 N N m a0 a1 (1 : Int32) (0 : Int32)
  ) else (
    gd (inb x2 (alen (a0 + 1))) <|
    bnd (mup m (a0 + 1) (ix x2) (q_shl (1 : Int32) x2)) fun m2 =>
    bnd (x2 + (1 : Int32)) fun y3 =>
    rec_2 m2 a0 a1 y3
  )
def L_X6_findClosures_2 (N : Nat) : Nat → Mem → Nat → Nat → Int32 → Option Mem
  | 0 => fun _ _ _ _ => none
  | f + 1 => S_X6_findClosures_2 N (L_X6_findClosures_2 N f)
set_option maxRecDepth 100000 in
set_option maxHeartbeats 4000000 in
theorem lp_X6_findClosures_2 {N : Nat} {K : KT} {m' : Mem} (hK : KOK K cX6_findClosures 7 RX6 wsX6_findClosures 1 0 20) (hR : KRet K none none m') : ∀ (f : Nat) {m : Mem} {a0 : Nat} {a1 : Nat} {x2 : Int32} (hk0 : knd a0 = 6) (hk1 : knd a1 = 3), L_X6_findClosures_2 N f m a0 a1 x2 = some m' → AW K 0 2 [(0, q_r a0), (1, q_r a1), (2, q_i x2)] [] m := by
  intro f
  induction f with
  | zero => intro m a0 a1 x2 hk0 hk1 hF; cases hF
  | succ f hrec_2 =>
    intro m a0 a1 x2 hk0 hk1 hF
    have hF : S_X6_findClosures_2 N (L_X6_findClosures_2 N f) m a0 a1 x2 = some m' := hF
    unfold S_X6_findClosures_2 at hF
    refine aw_iload_n hK 2 rfl dX6_findClosures_2 ?_
    refine aw_aload_n hK 0 rfl dX6_findClosures_3 ?_
    refine gf_6_2 hK hk0 (List.mem_of_getElem? (i := 1) rfl) dX6_findClosures_4 ?_
    refine aw_icmp_ge hK 25 rfl dX6_findClosures_7 (fun hc => ?_) (fun hc => ?_)
    · have hF := if_t hF hc
      refine aw_iconst hK (1) rfl dX6_findClosures_25 ?_
      refine aw_istore_n hK [(2, q_i (1 : Int32)), (0, q_r a0), (1, q_r a1)] (by decide) rfl dX6_findClosures_26 ?_
      refine aw_iconst hK (0) rfl dX6_findClosures_27 ?_
      refine aw_istore_n hK [(3, q_i (0 : Int32)), (2, q_i (1 : Int32)), (0, q_r a0), (1, q_r a1)] (by decide) rfl dX6_findClosures_28 ?_
      refine aw_sub [2, 3, 1, 0] (lv' := [(0, q_r a0), (1, q_r a1), (2, q_i (1 : Int32)), (3, q_i (0 : Int32))]) rfl ?_
      exact lp_X6_findClosures_29 hK hR _ hk0 hk1 hF
    · have hF := if_f hF hc
      refine aw_aload_n hK 0 rfl dX6_findClosures_10 ?_
      refine gf_6_0 hK hk0 (a0 + 1) rfl (List.mem_of_getElem? (i := 2) rfl) dX6_findClosures_11 ?_
      refine aw_iload_n hK 2 rfl dX6_findClosures_14 ?_
      refine aw_iconst hK (1) rfl dX6_findClosures_15 ?_
      refine aw_iload_n hK 2 rfl dX6_findClosures_16 ?_
      refine aw_ishl hK dX6_findClosures_17 ?_
      obtain ⟨g1, hF⟩ := gd_some hF
      refine aw_iast hK (kS1 hk0) g1 dX6_findClosures_18 ?_
      obtain ⟨m2, hm2, hF⟩ := bnd_some hF
      refine aw_mm hm2 ?_
      obtain ⟨y3, hy3, hF⟩ := bnd_some hF
      refine aw_iinc hK (cz := 1) 2 [(2, q_i y3), (0, q_r a0), (1, q_r a1)] (by decide) rfl rfl hy3 rfl dX6_findClosures_19 ?_
      refine aw_goto hK 2 rfl dX6_findClosures_22 ?_
      refine aw_sub [1, 2, 0] (lv' := [(0, q_r a0), (1, q_r a1), (2, q_i y3)]) rfl ?_
      exact hrec_2 hk0 hk1 hF
def F_X6_findClosures (N : Nat) (m : Mem) (a0 : Nat) (a1 : Nat) : Option Mem :=
  L_X6_findClosures_2 N N m a0 a1 (0 : Int32)
set_option maxRecDepth 100000 in
set_option maxHeartbeats 4000000 in
theorem tr_X6_findClosures {N : Nat} {m m' : Mem} {a0 : Nat} {a1 : Nat} (hk0 : knd a0 = 6) (hk1 : knd a1 = 3) (hF : F_X6_findClosures N m a0 a1 = some m') : Tr yX6_findClosures wsX6_findClosures 1 20 [q_r a0, q_r a1] m none m' := by
  refine tr_of (bytes := cX6_findClosures) (maxL := 7) (ret := none) (by decide) rfl (Nat.le_of_ble_eq_true rfl) (fun K hK hR => ?_)
  have hK : KOK K cX6_findClosures 7 RX6 wsX6_findClosures 1 0 20 := hK
  show AW K 0 0 [(0, q_r a0), (1, q_r a1)] [] m
  unfold F_X6_findClosures at hF
  refine aw_iconst hK (0) rfl dX6_findClosures_0 ?_
  refine aw_istore_n hK [(2, q_i (0 : Int32)), (0, q_r a0), (1, q_r a1)] (by decide) rfl dX6_findClosures_1 ?_
  refine aw_sub [1, 2, 0] (lv' := [(0, q_r a0), (1, q_r a1), (2, q_i (0 : Int32))]) rfl ?_
  exact lp_X6_findClosures_2 hK hR _ hk0 hk1 hF
def B_X6_take_108 (N : Nat) (rec_49 : Mem → Nat → Nat → Int32 → Option Mem) (m : Mem) (a0 : Nat) (a1 : Nat) (x2 : Int32) : Option Mem :=
  bnd (x2 + (1 : Int32)) fun y14 =>
  rec_49 m a0 a1 y14
set_option maxRecDepth 100000 in
set_option maxHeartbeats 4000000 in
theorem bk_X6_take_108 {N : Nat} {K : KT} {m' : Mem} {rec_49 : Mem → Nat → Nat → Int32 → Option Mem} (hK : KOK K cX6_take 4 RX6 wsX6_take 2 0 46) (hR : KRet K none none m') (hrec_49 : ∀ {m : Mem} {a0 : Nat} {a1 : Nat} {x2 : Int32} (hk0 : knd a0 = 6) (hk1 : knd a1 = 3), rec_49 m a0 a1 x2 = some m' → AW K 0 49 [(0, q_r a0), (1, q_r a1), (2, q_i x2)] [] m) {m : Mem} {a0 : Nat} {a1 : Nat} {x2 : Int32} (hk0 : knd a0 = 6) (hk1 : knd a1 = 3) (hF : B_X6_take_108 N rec_49 m a0 a1 x2 = some m') : AW K 0 108 [(0, q_r a0), (1, q_r a1), (2, q_i x2)] [] m := by
  unfold B_X6_take_108 at hF
  obtain ⟨y14, hy14, hF⟩ := bnd_some hF
  refine aw_iinc hK (cz := 1) 2 [(2, q_i y14), (0, q_r a0), (1, q_r a1)] (by decide) rfl rfl hy14 rfl dX6_take_108 ?_
  refine aw_goto hK 49 rfl dX6_take_111 ?_
  refine aw_sub [1, 2, 0] (lv' := [(0, q_r a0), (1, q_r a1), (2, q_i y14)]) rfl ?_
  exact hrec_49 hk0 hk1 hF
def S_X6_take_49 (N : Nat) (rec_49 : Mem → Nat → Nat → Int32 → Option Mem) (m : Mem) (a0 : Nat) (a1 : Nat) (x2 : Int32) : Option Mem :=
  if (m (a1 + 1) 2) ≤ x2 then (
    some m
  ) else (
    gd (inb x2 (alen ((a1 + 1) + 1))) <|
    bnd (m ((a1 + 1) + 1) (ix x2)) fun y9 =>
    if (P_X7_upperOf y9) = (8 : Int32) then (
      B_X6_take_108 N rec_49 m a0 a1 x2
    ) else (
      gd (inb (((P_X7_fromOf y9) * (8 : Int32)) + (P_X7_upperOf y9)) (alen (a0 + 2))) <|
      gd (inb (P_X7_toOf y9) (alen (a0 + 1))) <|
      gd (inb (((P_X7_fromOf y9) * (8 : Int32)) + (P_X7_upperOf y9)) (alen (a0 + 2))) <|
      bnd (mup m (a0 + 2) (ix (((P_X7_fromOf y9) * (8 : Int32)) + (P_X7_upperOf y9))) ((m (a0 + 2) (ix (((P_X7_fromOf y9) * (8 : Int32)) + (P_X7_upperOf y9)))) ||| (m (a0 + 1) (ix (P_X7_toOf y9))))) fun m13 =>
      B_X6_take_108 N rec_49 m13 a0 a1 x2
    )
  )
def L_X6_take_49 (N : Nat) : Nat → Mem → Nat → Nat → Int32 → Option Mem
  | 0 => fun _ _ _ _ => none
  | f + 1 => S_X6_take_49 N (L_X6_take_49 N f)
set_option maxRecDepth 100000 in
set_option maxHeartbeats 4000000 in
theorem lp_X6_take_49 {N : Nat} {K : KT} {m' : Mem} (hK : KOK K cX6_take 4 RX6 wsX6_take 2 0 46) (hR : KRet K none none m') : ∀ (f : Nat) {m : Mem} {a0 : Nat} {a1 : Nat} {x2 : Int32} (hk0 : knd a0 = 6) (hk1 : knd a1 = 3), L_X6_take_49 N f m a0 a1 x2 = some m' → AW K 0 49 [(0, q_r a0), (1, q_r a1), (2, q_i x2)] [] m := by
  intro f
  induction f with
  | zero => intro m a0 a1 x2 hk0 hk1 hF; cases hF
  | succ f hrec_49 =>
    intro m a0 a1 x2 hk0 hk1 hF
    have hF : S_X6_take_49 N (L_X6_take_49 N f) m a0 a1 x2 = some m' := hF
    unfold S_X6_take_49 at hF
    refine aw_iload_n hK 2 rfl dX6_take_49 ?_
    refine aw_aload_n hK 1 rfl dX6_take_50 ?_
    refine gf_3_0 hK hk1 (a1 + 1) rfl (List.mem_of_getElem? (i := 6) rfl) dX6_take_51 ?_
    refine gf_0_2 hK (kM1 hk1) (List.mem_of_getElem? (i := 7) rfl) dX6_take_54 ?_
    refine aw_icmp_ge hK 114 rfl dX6_take_57 (fun hc => ?_) (fun hc => ?_)
    · have hF := if_t hF hc
      obtain rfl := Option.some.inj hF
      exact aw_vret hK hR dX6_take_114
    · have hF := if_f hF hc
      refine aw_aload_n hK 1 rfl dX6_take_60 ?_
      refine gf_3_0 hK hk1 (a1 + 1) rfl (List.mem_of_getElem? (i := 6) rfl) dX6_take_61 ?_
      refine gf_0_0 hK (kM1 hk1) ((a1 + 1) + 1) rfl (List.mem_of_getElem? (i := 8) rfl) dX6_take_64 ?_
      refine aw_iload_n hK 2 rfl dX6_take_67 ?_
      obtain ⟨g8, hF⟩ := gd_some hF
      refine aw_iald hK (kA1 (kM1 hk1)) g8 dX6_take_68 ?_
      obtain ⟨y9, hy9, hF⟩ := bnd_some hF
      refine aw_nm hy9 ?_
      refine aw_istore_n hK [(3, q_i y9), (0, q_r a0), (1, q_r a1), (2, q_i x2)] (by decide) rfl dX6_take_69 ?_
      refine aw_iload_n hK 0 rfl dX6_take_70 ?_
      refine aw_csN hK (as := [q_i y9]) (host := "AffixWorks") (trp_X7_upperOf y9 _) gX6_take_X7_upperOf_n45 rfl (List.mem_of_getElem? (i := 26) rfl) (List.mem_of_getElem? (i := 16) rfl) (List.mem_of_getElem? (i := 20) rfl) (na := 1) (by decide +kernel) rfl ⟨by decide, by decide⟩ (Nat.zero_le _) (Nat.le_of_ble_eq_true rfl) dX6_take_71 ?_
      refine aw_bipush hK (8) rfl dX6_take_74 ?_
      refine aw_icmp_eq hK 108 rfl dX6_take_76 (fun hc => ?_) (fun hc => ?_)
      · have hF := if_t hF hc
        refine aw_sub [1, 2, 3] (lv' := [(0, q_r a0), (1, q_r a1), (2, q_i x2)]) rfl ?_
        exact bk_X6_take_108 hK hR hrec_49 hk0 hk1 hF
      · have hF := if_f hF hc
        refine aw_aload_n hK 1 rfl dX6_take_79 ?_
        refine gf_6_1 hK hk0 (a0 + 2) rfl (List.mem_of_getElem? (i := 5) rfl) dX6_take_80 ?_
        refine aw_iload_n hK 0 rfl dX6_take_83 ?_
        refine aw_csN hK (as := [q_i y9]) (host := "AffixWorks") (trp_X7_fromOf y9 _) gX6_take_X7_fromOf_n49 rfl (List.mem_of_getElem? (i := 27) rfl) (List.mem_of_getElem? (i := 16) rfl) (List.mem_of_getElem? (i := 15) rfl) (na := 1) (by decide +kernel) rfl ⟨by decide, by decide⟩ (Nat.zero_le _) (Nat.le_of_ble_eq_true rfl) dX6_take_84 ?_
        refine aw_bipush hK (8) rfl dX6_take_87 ?_
        refine aw_imul hK dX6_take_89 ?_
        refine aw_iload_n hK 0 rfl dX6_take_90 ?_
        refine aw_csN hK (as := [q_i y9]) (host := "AffixWorks") (trp_X7_upperOf y9 _) gX6_take_X7_upperOf_n45 rfl (List.mem_of_getElem? (i := 26) rfl) (List.mem_of_getElem? (i := 16) rfl) (List.mem_of_getElem? (i := 20) rfl) (na := 1) (by decide +kernel) rfl ⟨by decide, by decide⟩ (Nat.zero_le _) (Nat.le_of_ble_eq_true rfl) dX6_take_91 ?_
        refine aw_iadd hK dX6_take_94 ?_
        refine aw_dup2 hK rfl rfl dX6_take_95 ?_
        obtain ⟨g10, hF⟩ := gd_some hF
        refine aw_iald hK (kS2 hk0) g10 dX6_take_96 ?_
        refine aw_aload_n hK 1 rfl dX6_take_97 ?_
        refine gf_6_0 hK hk0 (a0 + 1) rfl (List.mem_of_getElem? (i := 9) rfl) dX6_take_98 ?_
        refine aw_iload_n hK 0 rfl dX6_take_101 ?_
        refine aw_csN hK (as := [q_i y9]) (host := "AffixWorks") (trp_X7_toOf y9 _) gX6_take_X7_toOf_n52 rfl (List.mem_of_getElem? (i := 28) rfl) (List.mem_of_getElem? (i := 16) rfl) (List.mem_of_getElem? (i := 18) rfl) (na := 1) (by decide +kernel) rfl ⟨by decide, by decide⟩ (Nat.zero_le _) (Nat.le_of_ble_eq_true rfl) dX6_take_102 ?_
        obtain ⟨g11, hF⟩ := gd_some hF
        refine aw_iald hK (kS1 hk0) g11 dX6_take_105 ?_
        refine aw_ior hK dX6_take_106 ?_
        obtain ⟨g12, hF⟩ := gd_some hF
        refine aw_iast hK (kS2 hk0) g12 dX6_take_107 ?_
        obtain ⟨m13, hm13, hF⟩ := bnd_some hF
        refine aw_mm hm13 ?_
        refine aw_sub [1, 2, 3] (lv' := [(0, q_r a0), (1, q_r a1), (2, q_i x2)]) rfl ?_
        exact bk_X6_take_108 hK hR hrec_49 hk0 hk1 hF
def S_X6_take_23 (N : Nat) (rec_23 : Mem → Nat → Nat → Int32 → Option Mem) (m : Mem) (a0 : Nat) (a1 : Nat) (x2 : Int32) : Option Mem :=
  if ((m a0 2) * (8 : Int32)) ≤ x2 then (
    L_X6_take_49 N N m a0 a1 (0 : Int32)
  ) else (
    gd (inb x2 (alen (a0 + 2))) <|
    bnd (mup m (a0 + 2) (ix x2) (0 : Int32)) fun m6 =>
    bnd (x2 + (1 : Int32)) fun y7 =>
    rec_23 m6 a0 a1 y7
  )
def L_X6_take_23 (N : Nat) : Nat → Mem → Nat → Nat → Int32 → Option Mem
  | 0 => fun _ _ _ _ => none
  | f + 1 => S_X6_take_23 N (L_X6_take_23 N f)
set_option maxRecDepth 100000 in
set_option maxHeartbeats 4000000 in
theorem lp_X6_take_23 {N : Nat} {K : KT} {m' : Mem} (hK : KOK K cX6_take 4 RX6 wsX6_take 2 0 46) (hR : KRet K none none m') : ∀ (f : Nat) {m : Mem} {a0 : Nat} {a1 : Nat} {x2 : Int32} (hk0 : knd a0 = 6) (hk1 : knd a1 = 3), L_X6_take_23 N f m a0 a1 x2 = some m' → AW K 0 23 [(0, q_r a0), (1, q_r a1), (2, q_i x2)] [] m := by
  intro f
  induction f with
  | zero => intro m a0 a1 x2 hk0 hk1 hF; cases hF
  | succ f hrec_23 =>
    intro m a0 a1 x2 hk0 hk1 hF
    have hF : S_X6_take_23 N (L_X6_take_23 N f) m a0 a1 x2 = some m' := hF
    unfold S_X6_take_23 at hF
    refine aw_iload_n hK 2 rfl dX6_take_23 ?_
    refine aw_aload_n hK 0 rfl dX6_take_24 ?_
    refine gf_6_2 hK hk0 (List.mem_of_getElem? (i := 2) rfl) dX6_take_25 ?_
    refine aw_bipush hK (8) rfl dX6_take_28 ?_
    refine aw_imul hK dX6_take_30 ?_
    refine aw_icmp_ge hK 47 rfl dX6_take_31 (fun hc => ?_) (fun hc => ?_)
    · have hF := if_t hF hc
      refine aw_iconst hK (0) rfl dX6_take_47 ?_
      refine aw_istore_n hK [(2, q_i (0 : Int32)), (0, q_r a0), (1, q_r a1)] (by decide) rfl dX6_take_48 ?_
      refine aw_sub [1, 2, 0] (lv' := [(0, q_r a0), (1, q_r a1), (2, q_i (0 : Int32))]) rfl ?_
      exact lp_X6_take_49 hK hR _ hk0 hk1 hF
    · have hF := if_f hF hc
      refine aw_aload_n hK 0 rfl dX6_take_34 ?_
      refine gf_6_1 hK hk0 (a0 + 2) rfl (List.mem_of_getElem? (i := 5) rfl) dX6_take_35 ?_
      refine aw_iload_n hK 2 rfl dX6_take_38 ?_
      refine aw_iconst hK (0) rfl dX6_take_39 ?_
      obtain ⟨g5, hF⟩ := gd_some hF
      refine aw_iast hK (kS2 hk0) g5 dX6_take_40 ?_
      obtain ⟨m6, hm6, hF⟩ := bnd_some hF
      refine aw_mm hm6 ?_
      obtain ⟨y7, hy7, hF⟩ := bnd_some hF
      refine aw_iinc hK (cz := 1) 2 [(2, q_i y7), (0, q_r a0), (1, q_r a1)] (by decide) rfl rfl hy7 rfl dX6_take_41 ?_
      refine aw_goto hK 23 rfl dX6_take_44 ?_
      refine aw_sub [1, 2, 0] (lv' := [(0, q_r a0), (1, q_r a1), (2, q_i y7)]) rfl ?_
      exact hrec_23 hk0 hk1 hF
def F_X6_take (N : Nat) (m : Mem) (a0 : Nat) (a1 : Nat) : Option Mem :=
  bnd (mup m a0 2 (m a1 1)) fun m1 =>
  bnd (mup m1 a0 3 (m1 a1 2)) fun m2 =>
  calv (F_X6_findClosures N m2 a0 a1) fun m4 =>
  L_X6_take_23 N N m4 a0 a1 (0 : Int32)
set_option maxRecDepth 100000 in
set_option maxHeartbeats 4000000 in
theorem tr_X6_take {N : Nat} {m m' : Mem} {a0 : Nat} {a1 : Nat} (hk0 : knd a0 = 6) (hk1 : knd a1 = 3) (hF : F_X6_take N m a0 a1 = some m') : Tr yX6_take wsX6_take 2 46 [q_r a0, q_r a1] m none m' := by
  refine tr_of (bytes := cX6_take) (maxL := 4) (ret := none) (by decide) rfl (Nat.le_of_ble_eq_true rfl) (fun K hK hR => ?_)
  have hK : KOK K cX6_take 4 RX6 wsX6_take 2 0 46 := hK
  show AW K 0 0 [(0, q_r a0), (1, q_r a1)] [] m
  unfold F_X6_take at hF
  refine aw_aload_n hK 0 rfl dX6_take_0 ?_
  refine aw_aload_n hK 1 rfl dX6_take_1 ?_
  refine gf_3_1 hK hk1 (List.mem_of_getElem? (i := 1) rfl) dX6_take_2 ?_
  refine pf_6_2 hK hk0 (List.mem_of_getElem? (i := 2) rfl) dX6_take_5 ?_
  obtain ⟨m1, hm1, hF⟩ := bnd_some hF
  refine aw_mm hm1 ?_
  refine aw_aload_n hK 0 rfl dX6_take_8 ?_
  refine aw_aload_n hK 1 rfl dX6_take_9 ?_
  refine gf_3_2 hK hk1 (List.mem_of_getElem? (i := 3) rfl) dX6_take_10 ?_
  refine pf_6_3 hK hk0 (List.mem_of_getElem? (i := 4) rfl) dX6_take_13 ?_
  obtain ⟨m2, hm2, hF⟩ := bnd_some hF
  refine aw_mm hm2 ?_
  refine aw_aload_n hK 0 rfl dX6_take_16 ?_
  refine aw_aload_n hK 1 rfl dX6_take_17 ?_
  obtain ⟨m4, h3, hF⟩ := calv_some hF
  refine aw_cv hK 6 (as := [q_r a1]) (tr_X6_findClosures hk0 hk1 h3) gX6_take_X6_findClosures rfl rfl hk0 (by decide) (na := 1) (by decide +kernel) rfl ⟨by decide, by decide⟩ (Nat.zero_le _) (Nat.le_of_ble_eq_true rfl) dX6_take_18 ?_
  refine aw_iconst hK (0) rfl dX6_take_21 ?_
  refine aw_istore_n hK [(2, q_i (0 : Int32)), (0, q_r a0), (1, q_r a1)] (by decide) rfl dX6_take_22 ?_
  refine aw_sub [1, 2, 0] (lv' := [(0, q_r a0), (1, q_r a1), (2, q_i (0 : Int32))]) rfl ?_
  exact lp_X6_take_23 hK hR _ hk0 hk1 hF
def F_X6_takeNothing (N : Nat) (m : Mem) (a0 : Nat) : Option Mem :=
  bnd (mup m a0 2 (0 : Int32)) fun m1 =>
  bnd (mup m1 a0 3 (0 : Int32)) fun m2 =>
  some m2
set_option maxRecDepth 100000 in
set_option maxHeartbeats 4000000 in
theorem tr_X6_takeNothing {N : Nat} {m m' : Mem} {a0 : Nat} (hk0 : knd a0 = 6) (hF : F_X6_takeNothing N m a0 = some m') : Tr yX6_takeNothing wsX6_takeNothing 0 0 [q_r a0] m none m' := by
  refine tr_of (bytes := cX6_takeNothing) (maxL := 1) (ret := none) (by decide) rfl (Nat.le_of_ble_eq_true rfl) (fun K hK hR => ?_)
  have hK : KOK K cX6_takeNothing 1 RX6 wsX6_takeNothing 0 0 0 := hK
  show AW K 0 0 [(0, q_r a0)] [] m
  unfold F_X6_takeNothing at hF
  refine aw_aload_n hK 0 rfl dX6_takeNothing_0 ?_
  refine aw_iconst hK (0) rfl dX6_takeNothing_1 ?_
  refine pf_6_2 hK hk0 (List.mem_of_getElem? (i := 1) rfl) dX6_takeNothing_2 ?_
  obtain ⟨m1, hm1, hF⟩ := bnd_some hF
  refine aw_mm hm1 ?_
  refine aw_aload_n hK 0 rfl dX6_takeNothing_5 ?_
  refine aw_iconst hK (0) rfl dX6_takeNothing_6 ?_
  refine pf_6_3 hK hk0 (List.mem_of_getElem? (i := 2) rfl) dX6_takeNothing_7 ?_
  obtain ⟨m2, hm2, hF⟩ := bnd_some hF
  refine aw_mm hm2 ?_
  obtain rfl := Option.some.inj hF
  exact aw_vret hK hR dX6_takeNothing_10
def B_X6_firstSet_17 (N : Nat) (m : Mem) (s0 : Int32) : Option (Int32 × Mem) :=
  some (s0, m)
set_option maxRecDepth 100000 in
set_option maxHeartbeats 4000000 in
theorem bk_X6_firstSet_17 {N : Nat} {K : KT} {m' : Mem} {r : Int32} (hK : KOK K cX6_firstSet 1 RX6 wsX6_firstSet 0 0 0) (hR : KRet K (some .int) (some r) m') {m : Mem} {s0 : Int32} (hF : B_X6_firstSet_17 N m s0 = some (r, m')) : AW K 0 17 [] [q_i s0] m := by
  unfold B_X6_firstSet_17 at hF
  obtain ⟨rfl, rfl⟩ := so_inj hF
  exact aw_iret hK hR rfl dX6_firstSet_17
def F_X6_firstSet (N : Nat) (m : Mem) (a0 : Nat) : Option (Int32 × Mem) :=
  if (m a0 2) = (0 : Int32) then (
    B_X6_firstSet_17 N m (0 : Int32)
  ) else (
    gd (inb (0 : Int32) (alen (a0 + 1))) <|
    B_X6_firstSet_17 N m (m (a0 + 1) (ix (0 : Int32)))
  )
set_option maxRecDepth 100000 in
set_option maxHeartbeats 4000000 in
theorem tr_X6_firstSet {N : Nat} {m m' : Mem} {r : Int32} {a0 : Nat} (hk0 : knd a0 = 6) (hF : F_X6_firstSet N m a0 = some (r, m')) : Tr yX6_firstSet wsX6_firstSet 0 0 [q_r a0] m (some r) m' := by
  refine tr_of (bytes := cX6_firstSet) (maxL := 1) (ret := (some .int)) (by decide) rfl (Nat.le_of_ble_eq_true rfl) (fun K hK hR => ?_)
  have hK : KOK K cX6_firstSet 1 RX6 wsX6_firstSet 0 0 0 := hK
  show AW K 0 0 [(0, q_r a0)] [] m
  unfold F_X6_firstSet at hF
  refine aw_aload_n hK 0 rfl dX6_firstSet_0 ?_
  refine gf_6_2 hK hk0 (List.mem_of_getElem? (i := 1) rfl) dX6_firstSet_1 ?_
  refine aw_if_ne hK 11 rfl dX6_firstSet_4 (fun hc => ?_) (fun hc => ?_)
  · have hF := if_f hF hc
    refine aw_aload_n hK 0 rfl dX6_firstSet_11 ?_
    refine gf_6_0 hK hk0 (a0 + 1) rfl (List.mem_of_getElem? (i := 2) rfl) dX6_firstSet_12 ?_
    refine aw_iconst hK (0) rfl dX6_firstSet_15 ?_
    obtain ⟨g1, hF⟩ := gd_some hF
    refine aw_iald hK (kS1 hk0) g1 dX6_firstSet_16 ?_
    refine aw_sub [] (lv' := []) rfl ?_
    exact bk_X6_firstSet_17 hK hR hF
  · have hF := if_t hF hc
    refine aw_iconst hK (0) rfl dX6_firstSet_7 ?_
    refine aw_goto hK 17 rfl dX6_firstSet_8 ?_
    refine aw_sub [] (lv' := []) rfl ?_
    exact bk_X6_firstSet_17 hK hR hF
def F_X5_addPair (N : Nat) (m : Mem) (x1 : Int32) (x2 : Int32) (x3 : Int32) (x4 : Int32) : Option (Int32 × Mem) :=
  if (m 20 8) < (200 : Int32) then (
    gd (inb (m 20 8) (alen 27)) <|
    bnd (mup m 27 (ix (m 20 8)) x1) fun m2 =>
    gd (inb (m2 20 8) (alen 28)) <|
    bnd (mup m2 28 (ix (m2 20 8)) x2) fun m4 =>
    gd (inb (m4 20 8) (alen 30)) <|
    bnd (mup m4 30 (ix (m4 20 8)) x3) fun m6 =>
    gd (inb (m6 20 8) (alen 31)) <|
    bnd (mup m6 31 (ix (m6 20 8)) x4) fun m8 =>
    bnd (mup m8 20 8 ((m8 20 8) + (1 : Int32))) fun m9 =>
    some ((1 : Int32), m9)
  ) else (
    some ((0 : Int32), m)
  )
set_option maxRecDepth 100000 in
set_option maxHeartbeats 4000000 in
theorem tr_X5_addPair {N : Nat} {m m' : Mem} {r : Int32} {x1 : Int32} {x2 : Int32} {x3 : Int32} {x4 : Int32} (hF : F_X5_addPair N m x1 x2 x3 x4 = some (r, m')) : Tr yX5_addPair wsX5_addPair 0 0 [q_r 20, q_i x1, q_i x2, q_i x3, q_i x4] m (some r) m' := by
  refine tr_of (bytes := cX5_addPair) (maxL := 5) (ret := (some .boolean)) (by decide) rfl (Nat.le_of_ble_eq_true rfl) (fun K hK hR => ?_)
  have hK : KOK K cX5_addPair 5 RX5 wsX5_addPair 0 0 0 := hK
  show AW K 0 0 [(0, q_r 20), (1, q_i x1), (2, q_i x2), (3, q_i x3), (4, q_i x4)] [] m
  unfold F_X5_addPair at hF
  refine aw_aload_n hK 0 rfl dX5_addPair_0 ?_
  refine gf_5_8 hK rfl (List.mem_of_getElem? (i := 1) rfl) dX5_addPair_1 ?_
  refine aw_sipush hK (200) rfl dX5_addPair_4 ?_
  refine aw_icmp_lt hK 12 rfl dX5_addPair_7 (fun hc => ?_) (fun hc => ?_)
  · have hF := if_t hF hc
    refine aw_aload_n hK 0 rfl dX5_addPair_12 ?_
    refine gf_5_3 hK rfl (27) rfl (List.mem_of_getElem? (i := 2) rfl) dX5_addPair_13 ?_
    refine aw_aload_n hK 0 rfl dX5_addPair_16 ?_
    refine gf_5_8 hK rfl (List.mem_of_getElem? (i := 1) rfl) dX5_addPair_17 ?_
    refine aw_iload_n hK 1 rfl dX5_addPair_20 ?_
    obtain ⟨g1, hF⟩ := gd_some hF
    refine aw_iast hK rfl g1 dX5_addPair_21 ?_
    obtain ⟨m2, hm2, hF⟩ := bnd_some hF
    refine aw_mm hm2 ?_
    refine aw_aload_n hK 0 rfl dX5_addPair_22 ?_
    refine gf_5_4 hK rfl (28) rfl (List.mem_of_getElem? (i := 3) rfl) dX5_addPair_23 ?_
    refine aw_aload_n hK 0 rfl dX5_addPair_26 ?_
    refine gf_5_8 hK rfl (List.mem_of_getElem? (i := 1) rfl) dX5_addPair_27 ?_
    refine aw_iload_n hK 2 rfl dX5_addPair_30 ?_
    obtain ⟨g3, hF⟩ := gd_some hF
    refine aw_iast hK rfl g3 dX5_addPair_31 ?_
    obtain ⟨m4, hm4, hF⟩ := bnd_some hF
    refine aw_mm hm4 ?_
    refine aw_aload_n hK 0 rfl dX5_addPair_32 ?_
    refine gf_5_6 hK rfl (30) rfl (List.mem_of_getElem? (i := 4) rfl) dX5_addPair_33 ?_
    refine aw_aload_n hK 0 rfl dX5_addPair_36 ?_
    refine gf_5_8 hK rfl (List.mem_of_getElem? (i := 1) rfl) dX5_addPair_37 ?_
    refine aw_iload_n hK 3 rfl dX5_addPair_40 ?_
    obtain ⟨g5, hF⟩ := gd_some hF
    refine aw_iast hK rfl g5 dX5_addPair_41 ?_
    obtain ⟨m6, hm6, hF⟩ := bnd_some hF
    refine aw_mm hm6 ?_
    refine aw_aload_n hK 0 rfl dX5_addPair_42 ?_
    refine gf_5_7 hK rfl (31) rfl (List.mem_of_getElem? (i := 5) rfl) dX5_addPair_43 ?_
    refine aw_aload_n hK 0 rfl dX5_addPair_46 ?_
    refine gf_5_8 hK rfl (List.mem_of_getElem? (i := 1) rfl) dX5_addPair_47 ?_
    refine aw_iload hK 4 rfl dX5_addPair_50 ?_
    obtain ⟨g7, hF⟩ := gd_some hF
    refine aw_iast hK rfl g7 dX5_addPair_52 ?_
    obtain ⟨m8, hm8, hF⟩ := bnd_some hF
    refine aw_mm hm8 ?_
    refine aw_aload_n hK 0 rfl dX5_addPair_53 ?_
    refine aw_dup hK rfl dX5_addPair_54 ?_
    refine gf_5_8 hK rfl (List.mem_of_getElem? (i := 1) rfl) dX5_addPair_55 ?_
    refine aw_iconst hK (1) rfl dX5_addPair_58 ?_
    refine aw_iadd hK dX5_addPair_59 ?_
    refine pf_5_8 hK rfl (List.mem_of_getElem? (i := 1) rfl) dX5_addPair_60 ?_
    obtain ⟨m9, hm9, hF⟩ := bnd_some hF
    refine aw_mm hm9 ?_
    refine aw_iconst hK (1) rfl dX5_addPair_63 ?_
    obtain ⟨rfl, rfl⟩ := so_inj hF
    exact aw_iret hK hR rfl dX5_addPair_64
  · have hF := if_f hF hc
    refine aw_iconst hK (0) rfl dX5_addPair_10 ?_
    obtain ⟨rfl, rfl⟩ := so_inj hF
    exact aw_iret hK hR rfl dX5_addPair_11
def B_X6_setBehind_38 (N : Nat) (rec_5 : Mem → Nat → Int32 → Int32 → Int32 → Int32 → Option (Int32 × Mem)) (m : Mem) (a0 : Nat) (x1 : Int32) (x2 : Int32) (x3 : Int32) (x4 : Int32) : Option (Int32 × Mem) :=
  bnd (x4 + (1 : Int32)) fun y3 =>
  rec_5 m a0 x1 x2 x3 y3
set_option maxRecDepth 100000 in
set_option maxHeartbeats 4000000 in
theorem bk_X6_setBehind_38 {N : Nat} {K : KT} {m' : Mem} {rec_5 : Mem → Nat → Int32 → Int32 → Int32 → Int32 → Option (Int32 × Mem)} {r : Int32} (hK : KOK K cX6_setBehind 5 RX6 wsX6_setBehind 1 0 21) (hR : KRet K (some .int) (some r) m') (hrec_5 : ∀ {m : Mem} {a0 : Nat} {x1 : Int32} {x2 : Int32} {x3 : Int32} {x4 : Int32} (hk0 : knd a0 = 6), rec_5 m a0 x1 x2 x3 x4 = some (r, m') → AW K 0 5 [(0, q_r a0), (1, q_i x1), (2, q_i x2), (3, q_i x3), (4, q_i x4)] [] m) {m : Mem} {a0 : Nat} {x1 : Int32} {x2 : Int32} {x3 : Int32} {x4 : Int32} (hk0 : knd a0 = 6) (hF : B_X6_setBehind_38 N rec_5 m a0 x1 x2 x3 x4 = some (r, m')) : AW K 0 38 [(0, q_r a0), (1, q_i x1), (2, q_i x2), (3, q_i x3), (4, q_i x4)] [] m := by
  unfold B_X6_setBehind_38 at hF
  obtain ⟨y3, hy3, hF⟩ := bnd_some hF
  refine aw_iinc hK (cz := 1) 4 [(4, q_i y3), (0, q_r a0), (1, q_i x1), (2, q_i x2), (3, q_i x3)] (by decide) rfl rfl hy3 rfl dX6_setBehind_38 ?_
  refine aw_goto hK 5 rfl dX6_setBehind_41 ?_
  refine aw_sub [1, 2, 3, 4, 0] (lv' := [(0, q_r a0), (1, q_i x1), (2, q_i x2), (3, q_i x3), (4, q_i y3)]) rfl ?_
  exact hrec_5 hk0 hF
def S_X6_setBehind_5 (N : Nat) (rec_5 : Mem → Nat → Int32 → Int32 → Int32 → Int32 → Option (Int32 × Mem)) (m : Mem) (a0 : Nat) (x1 : Int32) (x2 : Int32) (x3 : Int32) (x4 : Int32) : Option (Int32 × Mem) :=
  if (m a0 2) ≤ x4 then (
    some (x3, m)
  ) else (
    if (P_X7_holds x1 x4) = (0 : Int32) then (
      B_X6_setBehind_38 N rec_5 m a0 x1 x2 x3 x4
    ) else (
      gd (inb ((x4 * (8 : Int32)) + x2) (alen (a0 + 2))) <|
      bnd (x3 ||| (m (a0 + 2) (ix ((x4 * (8 : Int32)) + x2)))) fun y2 =>
      B_X6_setBehind_38 N rec_5 m a0 x1 x2 y2 x4
    )
  )
def L_X6_setBehind_5 (N : Nat) : Nat → Mem → Nat → Int32 → Int32 → Int32 → Int32 → Option (Int32 × Mem)
  | 0 => fun _ _ _ _ _ _ => none
  | f + 1 => S_X6_setBehind_5 N (L_X6_setBehind_5 N f)
set_option maxRecDepth 100000 in
set_option maxHeartbeats 4000000 in
theorem lp_X6_setBehind_5 {N : Nat} {K : KT} {m' : Mem} {r : Int32} (hK : KOK K cX6_setBehind 5 RX6 wsX6_setBehind 1 0 21) (hR : KRet K (some .int) (some r) m') : ∀ (f : Nat) {m : Mem} {a0 : Nat} {x1 : Int32} {x2 : Int32} {x3 : Int32} {x4 : Int32} (hk0 : knd a0 = 6), L_X6_setBehind_5 N f m a0 x1 x2 x3 x4 = some (r, m') → AW K 0 5 [(0, q_r a0), (1, q_i x1), (2, q_i x2), (3, q_i x3), (4, q_i x4)] [] m := by
  intro f
  induction f with
  | zero => intro m a0 x1 x2 x3 x4 hk0 hF; cases hF
  | succ f hrec_5 =>
    intro m a0 x1 x2 x3 x4 hk0 hF
    have hF : S_X6_setBehind_5 N (L_X6_setBehind_5 N f) m a0 x1 x2 x3 x4 = some (r, m') := hF
    unfold S_X6_setBehind_5 at hF
    refine aw_iload hK 4 rfl dX6_setBehind_5 ?_
    refine aw_aload_n hK 0 rfl dX6_setBehind_7 ?_
    refine gf_6_2 hK hk0 (List.mem_of_getElem? (i := 1) rfl) dX6_setBehind_8 ?_
    refine aw_icmp_ge hK 44 rfl dX6_setBehind_11 (fun hc => ?_) (fun hc => ?_)
    · have hF := if_t hF hc
      refine aw_iload_n hK 3 rfl dX6_setBehind_44 ?_
      obtain ⟨rfl, rfl⟩ := so_inj hF
      exact aw_iret hK hR rfl dX6_setBehind_45
    · have hF := if_f hF hc
      refine aw_iload_n hK 1 rfl dX6_setBehind_14 ?_
      refine aw_iload hK 4 rfl dX6_setBehind_15 ?_
      refine aw_csN hK (as := [q_i x1, q_i x4]) (host := "AffixWorks") (trp_X7_holds x1 x4 _) gX6_setBehind_X7_holds_n55 rfl (List.mem_of_getElem? (i := 29) rfl) (List.mem_of_getElem? (i := 4) rfl) (List.mem_of_getElem? (i := 3) rfl) (na := 2) (by decide +kernel) rfl ⟨by decide, by decide⟩ (Nat.zero_le _) (Nat.le_of_ble_eq_true rfl) dX6_setBehind_17 ?_
      refine aw_if_eq hK 38 rfl dX6_setBehind_20 (fun hc => ?_) (fun hc => ?_)
      · have hF := if_t hF hc
        refine aw_sub [0, 1, 2, 3, 4] (lv' := [(0, q_r a0), (1, q_i x1), (2, q_i x2), (3, q_i x3), (4, q_i x4)]) rfl ?_
        exact bk_X6_setBehind_38 hK hR hrec_5 hk0 hF
      · have hF := if_f hF hc
        refine aw_iload_n hK 3 rfl dX6_setBehind_23 ?_
        refine aw_aload_n hK 0 rfl dX6_setBehind_24 ?_
        refine gf_6_1 hK hk0 (a0 + 2) rfl (List.mem_of_getElem? (i := 2) rfl) dX6_setBehind_25 ?_
        refine aw_iload hK 4 rfl dX6_setBehind_28 ?_
        refine aw_bipush hK (8) rfl dX6_setBehind_30 ?_
        refine aw_imul hK dX6_setBehind_32 ?_
        refine aw_iload_n hK 2 rfl dX6_setBehind_33 ?_
        refine aw_iadd hK dX6_setBehind_34 ?_
        obtain ⟨g1, hF⟩ := gd_some hF
        refine aw_iald hK (kS2 hk0) g1 dX6_setBehind_35 ?_
        refine aw_ior hK dX6_setBehind_36 ?_
        obtain ⟨y2, hy2, hF⟩ := bnd_some hF
        refine aw_nm hy2 ?_
        refine aw_istore_n hK [(3, q_i y2), (0, q_r a0), (1, q_i x1), (2, q_i x2), (4, q_i x4)] (by decide) rfl dX6_setBehind_37 ?_
        refine aw_sub [1, 2, 3, 0, 4] (lv' := [(0, q_r a0), (1, q_i x1), (2, q_i x2), (3, q_i y2), (4, q_i x4)]) rfl ?_
        exact bk_X6_setBehind_38 hK hR hrec_5 hk0 hF
def F_X6_setBehind (N : Nat) (m : Mem) (a0 : Nat) (x1 : Int32) (x2 : Int32) : Option (Int32 × Mem) :=
  L_X6_setBehind_5 N N m a0 x1 x2 (0 : Int32) (0 : Int32)
set_option maxRecDepth 100000 in
set_option maxHeartbeats 4000000 in
theorem tr_X6_setBehind {N : Nat} {m m' : Mem} {r : Int32} {a0 : Nat} {x1 : Int32} {x2 : Int32} (hk0 : knd a0 = 6) (hF : F_X6_setBehind N m a0 x1 x2 = some (r, m')) : Tr yX6_setBehind wsX6_setBehind 1 21 [q_r a0, q_i x1, q_i x2] m (some r) m' := by
  refine tr_of (bytes := cX6_setBehind) (maxL := 5) (ret := (some .int)) (by decide) rfl (Nat.le_of_ble_eq_true rfl) (fun K hK hR => ?_)
  have hK : KOK K cX6_setBehind 5 RX6 wsX6_setBehind 1 0 21 := hK
  show AW K 0 0 [(0, q_r a0), (1, q_i x1), (2, q_i x2)] [] m
  unfold F_X6_setBehind at hF
  refine aw_iconst hK (0) rfl dX6_setBehind_0 ?_
  refine aw_istore_n hK [(3, q_i (0 : Int32)), (0, q_r a0), (1, q_i x1), (2, q_i x2)] (by decide) rfl dX6_setBehind_1 ?_
  refine aw_iconst hK (0) rfl dX6_setBehind_2 ?_
  refine aw_istore hK [(4, q_i (0 : Int32)), (3, q_i (0 : Int32)), (0, q_r a0), (1, q_i x1), (2, q_i x2)] (by decide) rfl dX6_setBehind_3 ?_
  refine aw_sub [2, 3, 4, 1, 0] (lv' := [(0, q_r a0), (1, q_i x1), (2, q_i x2), (3, q_i (0 : Int32)), (4, q_i (0 : Int32))]) rfl ?_
  exact lp_X6_setBehind_5 hK hR _ hk0 hF
def B_X5_isLookedAt_43 (N : Nat) (m : Mem) (s0 : Int32) : Option (Int32 × Mem) :=
  gd (isb s0) <|
  some (s0, m)
set_option maxRecDepth 100000 in
set_option maxHeartbeats 4000000 in
theorem bk_X5_isLookedAt_43 {N : Nat} {K : KT} {m' : Mem} {r : Int32} (hK : KOK K cX5_isLookedAt 3 RX5 wsX5_isLookedAt 0 0 0) (hR : KRet K (some .boolean) (some r) m') {m : Mem} {s0 : Int32} (hF : B_X5_isLookedAt_43 N m s0 = some (r, m')) : AW K 0 43 [] [q_i s0] m := by
  unfold B_X5_isLookedAt_43 at hF
  obtain ⟨g2, hF⟩ := gd_some hF
  obtain ⟨rfl, rfl⟩ := so_inj hF
  exact aw_iret hK hR (isb_narrow g2) dX5_isLookedAt_43
def B_X5_isLookedAt_42 (N : Nat) (m : Mem) : Option (Int32 × Mem) :=
  B_X5_isLookedAt_43 N m (0 : Int32)
set_option maxRecDepth 100000 in
set_option maxHeartbeats 4000000 in
theorem bk_X5_isLookedAt_42 {N : Nat} {K : KT} {m' : Mem} {r : Int32} (hK : KOK K cX5_isLookedAt 3 RX5 wsX5_isLookedAt 0 0 0) (hR : KRet K (some .boolean) (some r) m') {m : Mem} (hF : B_X5_isLookedAt_42 N m = some (r, m')) : AW K 0 42 [] [] m := by
  unfold B_X5_isLookedAt_42 at hF
  refine aw_iconst hK (0) rfl dX5_isLookedAt_42 ?_
  refine aw_sub [] (lv' := []) rfl ?_
  exact bk_X5_isLookedAt_43 hK hR hF
def B_X5_isLookedAt_38 (N : Nat) (m : Mem) : Option (Int32 × Mem) :=
  B_X5_isLookedAt_43 N m (1 : Int32)
set_option maxRecDepth 100000 in
set_option maxHeartbeats 4000000 in
theorem bk_X5_isLookedAt_38 {N : Nat} {K : KT} {m' : Mem} {r : Int32} (hK : KOK K cX5_isLookedAt 3 RX5 wsX5_isLookedAt 0 0 0) (hR : KRet K (some .boolean) (some r) m') {m : Mem} (hF : B_X5_isLookedAt_38 N m = some (r, m')) : AW K 0 38 [] [] m := by
  unfold B_X5_isLookedAt_38 at hF
  refine aw_iconst hK (1) rfl dX5_isLookedAt_38 ?_
  refine aw_goto hK 43 rfl dX5_isLookedAt_39 ?_
  refine aw_sub [] (lv' := []) rfl ?_
  exact bk_X5_isLookedAt_43 hK hR hF
def B_X5_isLookedAt_21 (N : Nat) (m : Mem) (s0 : Int32) : Option (Int32 × Mem) :=
  gd (isb s0) <|
  some (s0, m)
set_option maxRecDepth 100000 in
set_option maxHeartbeats 4000000 in
theorem bk_X5_isLookedAt_21 {N : Nat} {K : KT} {m' : Mem} {r : Int32} (hK : KOK K cX5_isLookedAt 3 RX5 wsX5_isLookedAt 0 0 0) (hR : KRet K (some .boolean) (some r) m') {m : Mem} {s0 : Int32} (hF : B_X5_isLookedAt_21 N m s0 = some (r, m')) : AW K 0 21 [] [q_i s0] m := by
  unfold B_X5_isLookedAt_21 at hF
  obtain ⟨g1, hF⟩ := gd_some hF
  obtain ⟨rfl, rfl⟩ := so_inj hF
  exact aw_iret hK hR (isb_narrow g1) dX5_isLookedAt_21
def B_X5_isLookedAt_20 (N : Nat) (m : Mem) : Option (Int32 × Mem) :=
  B_X5_isLookedAt_21 N m (0 : Int32)
set_option maxRecDepth 100000 in
set_option maxHeartbeats 4000000 in
theorem bk_X5_isLookedAt_20 {N : Nat} {K : KT} {m' : Mem} {r : Int32} (hK : KOK K cX5_isLookedAt 3 RX5 wsX5_isLookedAt 0 0 0) (hR : KRet K (some .boolean) (some r) m') {m : Mem} (hF : B_X5_isLookedAt_20 N m = some (r, m')) : AW K 0 20 [] [] m := by
  unfold B_X5_isLookedAt_20 at hF
  refine aw_iconst hK (0) rfl dX5_isLookedAt_20 ?_
  refine aw_sub [] (lv' := []) rfl ?_
  exact bk_X5_isLookedAt_21 hK hR hF
def F_X5_isLookedAt (N : Nat) (m : Mem) (x1 : Int32) (x2 : Int32) : Option (Int32 × Mem) :=
  if (m 20 2) = (1 : Int32) then (
    if x1 = (0 : Int32) then (
      B_X5_isLookedAt_20 N m
    ) else (
      if x2 = (0 : Int32) then (
        B_X5_isLookedAt_20 N m
      ) else (
        B_X5_isLookedAt_21 N m (1 : Int32)
      )
    )
  ) else (
    if x1 = (0 : Int32) then (
      if (m 20 2) = (2 : Int32) then (
        if x2 = (0 : Int32) then (
          B_X5_isLookedAt_42 N m
        ) else (
          B_X5_isLookedAt_38 N m
        )
      ) else (
        B_X5_isLookedAt_42 N m
      )
    ) else (
      B_X5_isLookedAt_38 N m
    )
  )
set_option maxRecDepth 100000 in
set_option maxHeartbeats 4000000 in
theorem tr_X5_isLookedAt {N : Nat} {m m' : Mem} {r : Int32} {x1 : Int32} {x2 : Int32} (hF : F_X5_isLookedAt N m x1 x2 = some (r, m')) : Tr yX5_isLookedAt wsX5_isLookedAt 0 0 [q_r 20, q_i x1, q_i x2] m (some r) m' := by
  refine tr_of (bytes := cX5_isLookedAt) (maxL := 3) (ret := (some .boolean)) (by decide) rfl (Nat.le_of_ble_eq_true rfl) (fun K hK hR => ?_)
  have hK : KOK K cX5_isLookedAt 3 RX5 wsX5_isLookedAt 0 0 0 := hK
  show AW K 0 0 [(0, q_r 20), (1, q_i x1), (2, q_i x2)] [] m
  unfold F_X5_isLookedAt at hF
  refine aw_aload_n hK 0 rfl dX5_isLookedAt_0 ?_
  refine gf_5_2 hK rfl (List.mem_of_getElem? (i := 1) rfl) dX5_isLookedAt_1 ?_
  refine aw_iconst hK (1) rfl dX5_isLookedAt_4 ?_
  refine aw_icmp_ne hK 22 rfl dX5_isLookedAt_5 (fun hc => ?_) (fun hc => ?_)
  · have hF := if_f hF hc
    refine aw_iload_n hK 1 rfl dX5_isLookedAt_22 ?_
    refine aw_if_ne hK 38 rfl dX5_isLookedAt_23 (fun hc => ?_) (fun hc => ?_)
    · have hF := if_f hF hc
      refine aw_sub [] (lv' := []) rfl ?_
      exact bk_X5_isLookedAt_38 hK hR hF
    · have hF := if_t hF hc
      refine aw_aload_n hK 0 rfl dX5_isLookedAt_26 ?_
      refine gf_5_2 hK rfl (List.mem_of_getElem? (i := 1) rfl) dX5_isLookedAt_27 ?_
      refine aw_iconst hK (2) rfl dX5_isLookedAt_30 ?_
      refine aw_icmp_ne hK 42 rfl dX5_isLookedAt_31 (fun hc => ?_) (fun hc => ?_)
      · have hF := if_f hF hc
        refine aw_sub [] (lv' := []) rfl ?_
        exact bk_X5_isLookedAt_42 hK hR hF
      · have hF := if_t hF hc
        refine aw_iload_n hK 2 rfl dX5_isLookedAt_34 ?_
        refine aw_if_eq hK 42 rfl dX5_isLookedAt_35 (fun hc => ?_) (fun hc => ?_)
        · have hF := if_t hF hc
          refine aw_sub [] (lv' := []) rfl ?_
          exact bk_X5_isLookedAt_42 hK hR hF
        · have hF := if_f hF hc
          refine aw_sub [] (lv' := []) rfl ?_
          exact bk_X5_isLookedAt_38 hK hR hF
  · have hF := if_t hF hc
    refine aw_iload_n hK 1 rfl dX5_isLookedAt_8 ?_
    refine aw_if_eq hK 20 rfl dX5_isLookedAt_9 (fun hc => ?_) (fun hc => ?_)
    · have hF := if_t hF hc
      refine aw_sub [] (lv' := []) rfl ?_
      exact bk_X5_isLookedAt_20 hK hR hF
    · have hF := if_f hF hc
      refine aw_iload_n hK 2 rfl dX5_isLookedAt_12 ?_
      refine aw_if_eq hK 20 rfl dX5_isLookedAt_13 (fun hc => ?_) (fun hc => ?_)
      · have hF := if_t hF hc
        refine aw_sub [] (lv' := []) rfl ?_
        exact bk_X5_isLookedAt_20 hK hR hF
      · have hF := if_f hF hc
        refine aw_iconst hK (1) rfl dX5_isLookedAt_16 ?_
        refine aw_goto hK 21 rfl dX5_isLookedAt_17 ?_
        refine aw_sub [] (lv' := []) rfl ?_
        exact bk_X5_isLookedAt_21 hK hR hF
def B_X5_placeOf_32 (N : Nat) (rec_2 : Mem → Int32 → Int32 → Int32 → Option (Int32 × Mem)) (m : Mem) (x1 : Int32) (x2 : Int32) (x3 : Int32) : Option (Int32 × Mem) :=
  bnd (x3 + (1 : Int32)) fun y3 =>
  rec_2 m x1 x2 y3
set_option maxRecDepth 100000 in
set_option maxHeartbeats 4000000 in
theorem bk_X5_placeOf_32 {N : Nat} {K : KT} {m' : Mem} {rec_2 : Mem → Int32 → Int32 → Int32 → Option (Int32 × Mem)} {r : Int32} (hK : KOK K cX5_placeOf 4 RX5 wsX5_placeOf 0 0 0) (hR : KRet K (some .int) (some r) m') (hrec_2 : ∀ {m : Mem} {x1 : Int32} {x2 : Int32} {x3 : Int32}, rec_2 m x1 x2 x3 = some (r, m') → AW K 0 2 [(0, q_r 20), (1, q_i x1), (2, q_i x2), (3, q_i x3)] [] m) {m : Mem} {x1 : Int32} {x2 : Int32} {x3 : Int32} (hF : B_X5_placeOf_32 N rec_2 m x1 x2 x3 = some (r, m')) : AW K 0 32 [(0, q_r 20), (1, q_i x1), (2, q_i x2), (3, q_i x3)] [] m := by
  unfold B_X5_placeOf_32 at hF
  obtain ⟨y3, hy3, hF⟩ := bnd_some hF
  refine aw_iinc hK (cz := 1) 3 [(3, q_i y3), (0, q_r 20), (1, q_i x1), (2, q_i x2)] (by decide) rfl rfl hy3 rfl dX5_placeOf_32 ?_
  refine aw_goto hK 2 rfl dX5_placeOf_35 ?_
  refine aw_sub [1, 2, 3, 0] (lv' := [(0, q_r 20), (1, q_i x1), (2, q_i x2), (3, q_i y3)]) rfl ?_
  exact hrec_2 hF
def S_X5_placeOf_2 (N : Nat) (rec_2 : Mem → Int32 → Int32 → Int32 → Option (Int32 × Mem)) (m : Mem) (x1 : Int32) (x2 : Int32) (x3 : Int32) : Option (Int32 × Mem) :=
  if (m 20 8) ≤ x3 then (
    some (m 20 8, m)
  ) else (
    gd (inb x3 (alen 27)) <|
    if (m 27 (ix x3)) = x1 then (
      gd (inb x3 (alen 28)) <|
      if (m 28 (ix x3)) = x2 then (
        some (x3, m)
      ) else (
        B_X5_placeOf_32 N rec_2 m x1 x2 x3
      )
    ) else (
      B_X5_placeOf_32 N rec_2 m x1 x2 x3
    )
  )
def L_X5_placeOf_2 (N : Nat) : Nat → Mem → Int32 → Int32 → Int32 → Option (Int32 × Mem)
  | 0 => fun _ _ _ _ => none
  | f + 1 => S_X5_placeOf_2 N (L_X5_placeOf_2 N f)
set_option maxRecDepth 100000 in
set_option maxHeartbeats 4000000 in
theorem lp_X5_placeOf_2 {N : Nat} {K : KT} {m' : Mem} {r : Int32} (hK : KOK K cX5_placeOf 4 RX5 wsX5_placeOf 0 0 0) (hR : KRet K (some .int) (some r) m') : ∀ (f : Nat) {m : Mem} {x1 : Int32} {x2 : Int32} {x3 : Int32}, L_X5_placeOf_2 N f m x1 x2 x3 = some (r, m') → AW K 0 2 [(0, q_r 20), (1, q_i x1), (2, q_i x2), (3, q_i x3)] [] m := by
  intro f
  induction f with
  | zero => intro m x1 x2 x3 hF; cases hF
  | succ f hrec_2 =>
    intro m x1 x2 x3 hF
    have hF : S_X5_placeOf_2 N (L_X5_placeOf_2 N f) m x1 x2 x3 = some (r, m') := hF
    unfold S_X5_placeOf_2 at hF
    refine aw_iload_n hK 3 rfl dX5_placeOf_2 ?_
    refine aw_aload_n hK 0 rfl dX5_placeOf_3 ?_
    refine gf_5_8 hK rfl (List.mem_of_getElem? (i := 1) rfl) dX5_placeOf_4 ?_
    refine aw_icmp_ge hK 38 rfl dX5_placeOf_7 (fun hc => ?_) (fun hc => ?_)
    · have hF := if_t hF hc
      refine aw_aload_n hK 0 rfl dX5_placeOf_38 ?_
      refine gf_5_8 hK rfl (List.mem_of_getElem? (i := 1) rfl) dX5_placeOf_39 ?_
      obtain ⟨rfl, rfl⟩ := so_inj hF
      exact aw_iret hK hR rfl dX5_placeOf_42
    · have hF := if_f hF hc
      refine aw_aload_n hK 0 rfl dX5_placeOf_10 ?_
      refine gf_5_3 hK rfl (27) rfl (List.mem_of_getElem? (i := 2) rfl) dX5_placeOf_11 ?_
      refine aw_iload_n hK 3 rfl dX5_placeOf_14 ?_
      obtain ⟨g1, hF⟩ := gd_some hF
      refine aw_iald hK rfl g1 dX5_placeOf_15 ?_
      refine aw_iload_n hK 1 rfl dX5_placeOf_16 ?_
      refine aw_icmp_ne hK 32 rfl dX5_placeOf_17 (fun hc => ?_) (fun hc => ?_)
      · have hF := if_f hF hc
        refine aw_sub [0, 1, 2, 3] (lv' := [(0, q_r 20), (1, q_i x1), (2, q_i x2), (3, q_i x3)]) rfl ?_
        exact bk_X5_placeOf_32 hK hR hrec_2 hF
      · have hF := if_t hF hc
        refine aw_aload_n hK 0 rfl dX5_placeOf_20 ?_
        refine gf_5_4 hK rfl (28) rfl (List.mem_of_getElem? (i := 3) rfl) dX5_placeOf_21 ?_
        refine aw_iload_n hK 3 rfl dX5_placeOf_24 ?_
        obtain ⟨g2, hF⟩ := gd_some hF
        refine aw_iald hK rfl g2 dX5_placeOf_25 ?_
        refine aw_iload_n hK 2 rfl dX5_placeOf_26 ?_
        refine aw_icmp_ne hK 32 rfl dX5_placeOf_27 (fun hc => ?_) (fun hc => ?_)
        · have hF := if_f hF hc
          refine aw_sub [0, 1, 2, 3] (lv' := [(0, q_r 20), (1, q_i x1), (2, q_i x2), (3, q_i x3)]) rfl ?_
          exact bk_X5_placeOf_32 hK hR hrec_2 hF
        · have hF := if_t hF hc
          refine aw_iload_n hK 3 rfl dX5_placeOf_30 ?_
          obtain ⟨rfl, rfl⟩ := so_inj hF
          exact aw_iret hK hR rfl dX5_placeOf_31
def F_X5_placeOf (N : Nat) (m : Mem) (x1 : Int32) (x2 : Int32) : Option (Int32 × Mem) :=
  L_X5_placeOf_2 N N m x1 x2 (0 : Int32)
set_option maxRecDepth 100000 in
set_option maxHeartbeats 4000000 in
theorem tr_X5_placeOf {N : Nat} {m m' : Mem} {r : Int32} {x1 : Int32} {x2 : Int32} (hF : F_X5_placeOf N m x1 x2 = some (r, m')) : Tr yX5_placeOf wsX5_placeOf 0 0 [q_r 20, q_i x1, q_i x2] m (some r) m' := by
  refine tr_of (bytes := cX5_placeOf) (maxL := 4) (ret := (some .int)) (by decide) rfl (Nat.le_of_ble_eq_true rfl) (fun K hK hR => ?_)
  have hK : KOK K cX5_placeOf 4 RX5 wsX5_placeOf 0 0 0 := hK
  show AW K 0 0 [(0, q_r 20), (1, q_i x1), (2, q_i x2)] [] m
  unfold F_X5_placeOf at hF
  refine aw_iconst hK (0) rfl dX5_placeOf_0 ?_
  refine aw_istore_n hK [(3, q_i (0 : Int32)), (0, q_r 20), (1, q_i x1), (2, q_i x2)] (by decide) rfl dX5_placeOf_1 ?_
  refine aw_sub [1, 2, 3, 0] (lv' := [(0, q_r 20), (1, q_i x1), (2, q_i x2), (3, q_i (0 : Int32))]) rfl ?_
  exact lp_X5_placeOf_2 hK hR _ hF
def B_X5_explore_152 (N : Nat) (m : Mem) : Option (Int32 × Mem) :=
  some ((1 : Int32), m)
set_option maxRecDepth 100000 in
set_option maxHeartbeats 4000000 in
theorem bk_X5_explore_152 {N : Nat} {K : KT} {m' : Mem} {r : Int32} (hK : KOK K cX5_explore 6 RX5 wsX5_explore 2 0 45) (hR : KRet K (some .boolean) (some r) m') {m : Mem} (hF : B_X5_explore_152 N m = some (r, m')) : AW K 0 152 [] [] m := by
  unfold B_X5_explore_152 at hF
  refine aw_iconst hK (1) rfl dX5_explore_152 ?_
  obtain ⟨rfl, rfl⟩ := so_inj hF
  exact aw_iret hK hR rfl dX5_explore_153
def B_X5_explore_127 (N : Nat) (rec_28 : Mem → Int32 → Option (Int32 × Mem)) (rec_45 : Mem → Int32 → Int32 → Option (Int32 × Mem)) (m : Mem) (x1 : Int32) (x2 : Int32) (x5 : Int32) : Option (Int32 × Mem) :=
  gd (inb ((x1 * (8 : Int32)) + x2) (alen 29)) <|
  bnd (mup m 29 (ix ((x1 * (8 : Int32)) + x2)) x5) fun m30 =>
  bnd (x2 + (1 : Int32)) fun y31 =>
  rec_45 m30 x1 y31
set_option maxRecDepth 100000 in
set_option maxHeartbeats 4000000 in
theorem bk_X5_explore_127 {N : Nat} {K : KT} {m' : Mem} {rec_28 : Mem → Int32 → Option (Int32 × Mem)} {rec_45 : Mem → Int32 → Int32 → Option (Int32 × Mem)} {r : Int32} (hK : KOK K cX5_explore 6 RX5 wsX5_explore 2 0 45) (hR : KRet K (some .boolean) (some r) m') (hrec_28 : ∀ {m : Mem} {x1 : Int32}, rec_28 m x1 = some (r, m') → AW K 0 28 [(0, q_r 20), (1, q_i x1)] [] m) (hrec_45 : ∀ {m : Mem} {x1 : Int32} {x2 : Int32}, rec_45 m x1 x2 = some (r, m') → AW K 0 45 [(0, q_r 20), (1, q_i x1), (2, q_i x2)] [] m) {m : Mem} {x1 : Int32} {x2 : Int32} {x5 : Int32} (hF : B_X5_explore_127 N rec_28 rec_45 m x1 x2 x5 = some (r, m')) : AW K 0 127 [(0, q_r 20), (1, q_i x1), (2, q_i x2), (5, q_i x5)] [] m := by
  unfold B_X5_explore_127 at hF
  refine aw_aload_n hK 0 rfl dX5_explore_127 ?_
  refine gf_5_5 hK rfl (29) rfl (List.mem_of_getElem? (i := 6) rfl) dX5_explore_128 ?_
  refine aw_iload_n hK 1 rfl dX5_explore_131 ?_
  refine aw_bipush hK (8) rfl dX5_explore_132 ?_
  refine aw_imul hK dX5_explore_134 ?_
  refine aw_iload_n hK 2 rfl dX5_explore_135 ?_
  refine aw_iadd hK dX5_explore_136 ?_
  refine aw_iload hK 3 rfl dX5_explore_137 ?_
  obtain ⟨g29, hF⟩ := gd_some hF
  refine aw_iast hK rfl g29 dX5_explore_139 ?_
  obtain ⟨m30, hm30, hF⟩ := bnd_some hF
  refine aw_mm hm30 ?_
  obtain ⟨y31, hy31, hF⟩ := bnd_some hF
  refine aw_iinc hK (cz := 1) 2 [(2, q_i y31), (0, q_r 20), (1, q_i x1), (5, q_i x5)] (by decide) rfl rfl hy31 rfl dX5_explore_140 ?_
  refine aw_goto hK 45 rfl dX5_explore_143 ?_
  refine aw_sub [1, 2, 0] (lv' := [(0, q_r 20), (1, q_i x1), (2, q_i y31)]) rfl ?_
  exact hrec_45 hF
def S_X5_explore_45 (N : Nat) (rec_28 : Mem → Int32 → Option (Int32 × Mem)) (rec_45 : Mem → Int32 → Int32 → Option (Int32 × Mem)) (m : Mem) (x1 : Int32) (x2 : Int32) : Option (Int32 × Mem) :=
  if (8 : Int32) ≤ x2 then (
    bnd (x1 + (1 : Int32)) fun y11 =>
    rec_28 m y11
  ) else (
    gd (inb x1 (alen 27)) <|
    cal (F_X6_setBehind N m 21 (m 27 (ix x1)) x2) fun r15 m14 =>
    gd (inb x1 (alen 28)) <|
    cal (F_X6_setBehind N m14 24 (m14 28 (ix x1)) x2) fun r19 m18 =>
    cal (F_X5_isLookedAt N m18 r15 r19) fun r22 m21 =>
    if r22 = (0 : Int32) then (
      B_X5_explore_127 N rec_28 rec_45 m21 x1 x2 (-1 : Int32)
    ) else (
      cal (F_X5_placeOf N m21 r15 r19) fun r25 m24 =>
      if r25 = (m24 20 8) then (
        cal (F_X5_addPair N m24 r15 r19 x1 x2) fun r28 m27 =>
        if r28 = (0 : Int32) then (
          some ((0 : Int32), m27)
        ) else (
          B_X5_explore_127 N rec_28 rec_45 m27 x1 x2 r25
        )
      ) else (
        B_X5_explore_127 N rec_28 rec_45 m24 x1 x2 r25
      )
    )
  )
def L_X5_explore_45 (N : Nat) (rec_28 : Mem → Int32 → Option (Int32 × Mem)) : Nat → Mem → Int32 → Int32 → Option (Int32 × Mem)
  | 0 => fun _ _ _ => none
  | f + 1 => S_X5_explore_45 N rec_28 (L_X5_explore_45 N rec_28 f)
set_option maxRecDepth 100000 in
set_option maxHeartbeats 4000000 in
theorem lp_X5_explore_45 {N : Nat} {K : KT} {m' : Mem} {rec_28 : Mem → Int32 → Option (Int32 × Mem)} {r : Int32} (hK : KOK K cX5_explore 6 RX5 wsX5_explore 2 0 45) (hR : KRet K (some .boolean) (some r) m') (hrec_28 : ∀ {m : Mem} {x1 : Int32}, rec_28 m x1 = some (r, m') → AW K 0 28 [(0, q_r 20), (1, q_i x1)] [] m) : ∀ (f : Nat) {m : Mem} {x1 : Int32} {x2 : Int32}, L_X5_explore_45 N rec_28 f m x1 x2 = some (r, m') → AW K 0 45 [(0, q_r 20), (1, q_i x1), (2, q_i x2)] [] m := by
  intro f
  induction f with
  | zero => intro m x1 x2 hF; cases hF
  | succ f hrec_45 =>
    intro m x1 x2 hF
    have hF : S_X5_explore_45 N rec_28 (L_X5_explore_45 N rec_28 f) m x1 x2 = some (r, m') := hF
    unfold S_X5_explore_45 at hF
    refine aw_iload_n hK 2 rfl dX5_explore_45 ?_
    refine aw_bipush hK (8) rfl dX5_explore_46 ?_
    refine aw_icmp_ge hK 146 rfl dX5_explore_48 (fun hc => ?_) (fun hc => ?_)
    · have hF := if_t hF hc
      obtain ⟨y11, hy11, hF⟩ := bnd_some hF
      refine aw_iinc hK (cz := 1) 1 [(1, q_i y11), (0, q_r 20), (2, q_i x2)] (by decide) rfl rfl hy11 rfl dX5_explore_146 ?_
      refine aw_goto hK 28 rfl dX5_explore_149 ?_
      refine aw_sub [1, 0] (lv' := [(0, q_r 20), (1, q_i y11)]) rfl ?_
      exact hrec_28 hF
    · have hF := if_f hF hc
      refine aw_aload_n hK 0 rfl dX5_explore_51 ?_
      refine gf_5_0 hK rfl (21) rfl (List.mem_of_getElem? (i := 2) rfl) dX5_explore_52 ?_
      refine aw_aload_n hK 0 rfl dX5_explore_55 ?_
      refine gf_5_3 hK rfl (27) rfl (List.mem_of_getElem? (i := 4) rfl) dX5_explore_56 ?_
      refine aw_iload_n hK 1 rfl dX5_explore_59 ?_
      obtain ⟨g12, hF⟩ := gd_some hF
      refine aw_iald hK rfl g12 dX5_explore_60 ?_
      refine aw_iload_n hK 2 rfl dX5_explore_61 ?_
      obtain ⟨r15, m14, h13, hF⟩ := cal_some hF
      refine aw_cv hK 6 (as := [q_i (m 27 (ix x1)), q_i x2]) (tr_X6_setBehind rfl h13) gX5_explore_X6_setBehind rfl rfl rfl (by decide) (na := 2) (by decide +kernel) rfl ⟨by decide, by decide⟩ (Nat.zero_le _) (Nat.le_of_ble_eq_true rfl) dX5_explore_62 ?_
      refine aw_istore_n hK [(3, q_i r15), (0, q_r 20), (1, q_i x1), (2, q_i x2)] (by decide) rfl dX5_explore_65 ?_
      refine aw_aload_n hK 1 rfl dX5_explore_66 ?_
      refine gf_5_1 hK rfl (24) rfl (List.mem_of_getElem? (i := 3) rfl) dX5_explore_67 ?_
      refine aw_aload_n hK 1 rfl dX5_explore_70 ?_
      refine gf_5_4 hK rfl (28) rfl (List.mem_of_getElem? (i := 5) rfl) dX5_explore_71 ?_
      refine aw_iload_n hK 2 rfl dX5_explore_74 ?_
      obtain ⟨g16, hF⟩ := gd_some hF
      refine aw_iald hK rfl g16 dX5_explore_75 ?_
      refine aw_iload_n hK 3 rfl dX5_explore_76 ?_
      obtain ⟨r19, m18, h17, hF⟩ := cal_some hF
      refine aw_cv hK 6 (as := [q_i (m14 28 (ix x1)), q_i x2]) (tr_X6_setBehind rfl h17) gX5_explore_X6_setBehind rfl rfl rfl (by decide) (na := 2) (by decide +kernel) rfl ⟨by decide, by decide⟩ (Nat.zero_le _) (Nat.le_of_ble_eq_true rfl) dX5_explore_77 ?_
      refine aw_istore hK [(4, q_i r19), (3, q_i r15), (0, q_r 20), (1, q_i x1), (2, q_i x2)] (by decide) rfl dX5_explore_80 ?_
      refine aw_iconst hK (-1) rfl dX5_explore_82 ?_
      refine aw_istore hK [(5, q_i (-1 : Int32)), (4, q_i r19), (3, q_i r15), (0, q_r 20), (1, q_i x1), (2, q_i x2)] (by decide) rfl dX5_explore_83 ?_
      refine aw_aload_n hK 3 rfl dX5_explore_85 ?_
      refine aw_iload_n hK 2 rfl dX5_explore_86 ?_
      refine aw_iload hK 1 rfl dX5_explore_87 ?_
      obtain ⟨r22, m21, h20, hF⟩ := cal_some hF
      refine aw_cv hK 5 (as := [q_i r15, q_i r19]) (tr_X5_isLookedAt h20) gX5_explore_X5_isLookedAt rfl rfl rfl (by decide) (na := 2) (by decide +kernel) rfl ⟨by decide, by decide⟩ (Nat.zero_le _) (Nat.le_of_ble_eq_true rfl) dX5_explore_89 ?_
      refine aw_if_eq hK 127 rfl dX5_explore_92 (fun hc => ?_) (fun hc => ?_)
      · have hF := if_t hF hc
        refine aw_sub [3, 4, 5, 0] (lv' := [(0, q_r 20), (1, q_i x1), (2, q_i x2), (5, q_i (-1 : Int32))]) rfl ?_
        exact bk_X5_explore_127 hK hR hrec_28 hrec_45 hF
      · have hF := if_f hF hc
        refine aw_aload_n hK 3 rfl dX5_explore_95 ?_
        refine aw_iload_n hK 2 rfl dX5_explore_96 ?_
        refine aw_iload hK 1 rfl dX5_explore_97 ?_
        obtain ⟨r25, m24, h23, hF⟩ := cal_some hF
        refine aw_cv hK 5 (as := [q_i r15, q_i r19]) (tr_X5_placeOf h23) gX5_explore_X5_placeOf rfl rfl rfl (by decide) (na := 2) (by decide +kernel) rfl ⟨by decide, by decide⟩ (Nat.zero_le _) (Nat.le_of_ble_eq_true rfl) dX5_explore_99 ?_
        refine aw_istore hK [(5, q_i r25), (4, q_i r19), (3, q_i r15), (0, q_r 20), (1, q_i x1), (2, q_i x2)] (by decide) rfl dX5_explore_102 ?_
        refine aw_iload hK 0 rfl dX5_explore_104 ?_
        refine aw_aload_n hK 3 rfl dX5_explore_106 ?_
        refine gf_5_8 hK rfl (List.mem_of_getElem? (i := 1) rfl) dX5_explore_107 ?_
        refine aw_icmp_ne hK 127 rfl dX5_explore_110 (fun hc => ?_) (fun hc => ?_)
        · have hF := if_f hF hc
          refine aw_sub [3, 4, 5, 0] (lv' := [(0, q_r 20), (1, q_i x1), (2, q_i x2), (5, q_i r25)]) rfl ?_
          exact bk_X5_explore_127 hK hR hrec_28 hrec_45 hF
        · have hF := if_t hF hc
          refine aw_aload_n hK 3 rfl dX5_explore_113 ?_
          refine aw_iload_n hK 2 rfl dX5_explore_114 ?_
          refine aw_iload hK 1 rfl dX5_explore_115 ?_
          refine aw_iload_n hK 4 rfl dX5_explore_117 ?_
          refine aw_iload_n hK 5 rfl dX5_explore_118 ?_
          obtain ⟨r28, m27, h26, hF⟩ := cal_some hF
          refine aw_cv hK 5 (as := [q_i r15, q_i r19, q_i x1, q_i x2]) (tr_X5_addPair h26) gX5_explore_X5_addPair rfl rfl rfl (by decide) (na := 4) (by decide +kernel) rfl ⟨by decide, by decide⟩ (Nat.zero_le _) (Nat.le_of_ble_eq_true rfl) dX5_explore_119 ?_
          refine aw_if_ne hK 127 rfl dX5_explore_122 (fun hc => ?_) (fun hc => ?_)
          · have hF := if_f hF hc
            refine aw_sub [3, 4, 5, 0] (lv' := [(0, q_r 20), (1, q_i x1), (2, q_i x2), (5, q_i r25)]) rfl ?_
            exact bk_X5_explore_127 hK hR hrec_28 hrec_45 hF
          · have hF := if_t hF hc
            refine aw_iconst hK (0) rfl dX5_explore_125 ?_
            obtain ⟨rfl, rfl⟩ := so_inj hF
            exact aw_iret hK hR rfl dX5_explore_126
def S_X5_explore_28 (N : Nat) (rec_28 : Mem → Int32 → Option (Int32 × Mem)) (m : Mem) (x1 : Int32) : Option (Int32 × Mem) :=
  if (m 20 8) ≤ x1 then (
    B_X5_explore_152 N m
  ) else (
    if (200 : Int32) ≤ x1 then (
      B_X5_explore_152 N m
    ) else (
      L_X5_explore_45 N rec_28 N m x1 (0 : Int32)
    )
  )
def L_X5_explore_28 (N : Nat) : Nat → Mem → Int32 → Option (Int32 × Mem)
  | 0 => fun _ _ => none
  | f + 1 => S_X5_explore_28 N (L_X5_explore_28 N f)
set_option maxRecDepth 100000 in
set_option maxHeartbeats 4000000 in
theorem lp_X5_explore_28 {N : Nat} {K : KT} {m' : Mem} {r : Int32} (hK : KOK K cX5_explore 6 RX5 wsX5_explore 2 0 45) (hR : KRet K (some .boolean) (some r) m') : ∀ (f : Nat) {m : Mem} {x1 : Int32}, L_X5_explore_28 N f m x1 = some (r, m') → AW K 0 28 [(0, q_r 20), (1, q_i x1)] [] m := by
  intro f
  induction f with
  | zero => intro m x1 hF; cases hF
  | succ f hrec_28 =>
    intro m x1 hF
    have hF : S_X5_explore_28 N (L_X5_explore_28 N f) m x1 = some (r, m') := hF
    unfold S_X5_explore_28 at hF
    refine aw_iload_n hK 1 rfl dX5_explore_28 ?_
    refine aw_aload_n hK 0 rfl dX5_explore_29 ?_
    refine gf_5_8 hK rfl (List.mem_of_getElem? (i := 1) rfl) dX5_explore_30 ?_
    refine aw_icmp_ge hK 152 rfl dX5_explore_33 (fun hc => ?_) (fun hc => ?_)
    · have hF := if_t hF hc
      refine aw_sub [] (lv' := []) rfl ?_
      exact bk_X5_explore_152 hK hR hF
    · have hF := if_f hF hc
      refine aw_iload_n hK 1 rfl dX5_explore_36 ?_
      refine aw_sipush hK (200) rfl dX5_explore_37 ?_
      refine aw_icmp_ge hK 152 rfl dX5_explore_40 (fun hc => ?_) (fun hc => ?_)
      · have hF := if_t hF hc
        refine aw_sub [] (lv' := []) rfl ?_
        exact bk_X5_explore_152 hK hR hF
      · have hF := if_f hF hc
        refine aw_iconst hK (0) rfl dX5_explore_43 ?_
        refine aw_istore_n hK [(2, q_i (0 : Int32)), (0, q_r 20), (1, q_i x1)] (by decide) rfl dX5_explore_44 ?_
        refine aw_sub [1, 2, 0] (lv' := [(0, q_r 20), (1, q_i x1), (2, q_i (0 : Int32))]) rfl ?_
        exact lp_X5_explore_45 hK hR hrec_28 _ hF
def F_X5_explore (N : Nat) (m : Mem) : Option (Int32 × Mem) :=
  bnd (mup m 20 8 (0 : Int32)) fun m1 =>
  cal (F_X6_firstSet N m1 21) fun r4 m3 =>
  cal (F_X6_firstSet N m3 24) fun r7 m6 =>
  cal (F_X5_addPair N m6 r4 r7 (-1 : Int32) (-1 : Int32)) fun r10 m9 =>
  L_X5_explore_28 N N m9 (0 : Int32)
set_option maxRecDepth 100000 in
set_option maxHeartbeats 4000000 in
theorem tr_X5_explore {N : Nat} {m m' : Mem} {r : Int32} (hF : F_X5_explore N m = some (r, m')) : Tr yX5_explore wsX5_explore 2 45 [q_r 20] m (some r) m' := by
  refine tr_of (bytes := cX5_explore) (maxL := 6) (ret := (some .boolean)) (by decide) rfl (Nat.le_of_ble_eq_true rfl) (fun K hK hR => ?_)
  have hK : KOK K cX5_explore 6 RX5 wsX5_explore 2 0 45 := hK
  show AW K 0 0 [(0, q_r 20)] [] m
  unfold F_X5_explore at hF
  refine aw_aload_n hK 0 rfl dX5_explore_0 ?_
  refine aw_iconst hK (0) rfl dX5_explore_1 ?_
  refine pf_5_8 hK rfl (List.mem_of_getElem? (i := 1) rfl) dX5_explore_2 ?_
  obtain ⟨m1, hm1, hF⟩ := bnd_some hF
  refine aw_mm hm1 ?_
  refine aw_aload_n hK 0 rfl dX5_explore_5 ?_
  refine aw_aload_n hK 0 rfl dX5_explore_6 ?_
  refine gf_5_0 hK rfl (21) rfl (List.mem_of_getElem? (i := 2) rfl) dX5_explore_7 ?_
  obtain ⟨r4, m3, h2, hF⟩ := cal_some hF
  refine aw_cv hK 6 (as := []) (tr_X6_firstSet rfl h2) gX5_explore_X6_firstSet rfl rfl rfl (by decide) (na := 0) (by decide +kernel) rfl ⟨by decide, by decide⟩ (Nat.zero_le _) (Nat.le_of_ble_eq_true rfl) dX5_explore_10 ?_
  refine aw_aload_n hK 0 rfl dX5_explore_13 ?_
  refine gf_5_1 hK rfl (24) rfl (List.mem_of_getElem? (i := 3) rfl) dX5_explore_14 ?_
  obtain ⟨r7, m6, h5, hF⟩ := cal_some hF
  refine aw_cv hK 6 (as := []) (tr_X6_firstSet rfl h5) gX5_explore_X6_firstSet rfl rfl rfl (by decide) (na := 0) (by decide +kernel) rfl ⟨by decide, by decide⟩ (Nat.zero_le _) (Nat.le_of_ble_eq_true rfl) dX5_explore_17 ?_
  refine aw_iconst hK (-1) rfl dX5_explore_20 ?_
  refine aw_iconst hK (-1) rfl dX5_explore_21 ?_
  obtain ⟨r10, m9, h8, hF⟩ := cal_some hF
  refine aw_cv hK 5 (as := [q_i r4, q_i r7, q_i (-1 : Int32), q_i (-1 : Int32)]) (tr_X5_addPair h8) gX5_explore_X5_addPair rfl rfl rfl (by decide) (na := 4) (by decide +kernel) rfl ⟨by decide, by decide⟩ (Nat.zero_le _) (Nat.le_of_ble_eq_true rfl) dX5_explore_22 ?_
  refine aw_pop hK rfl dX5_explore_25 ?_
  refine aw_iconst hK (0) rfl dX5_explore_26 ?_
  refine aw_istore_n hK [(1, q_i (0 : Int32)), (0, q_r 20)] (by decide) rfl dX5_explore_27 ?_
  refine aw_sub [1, 0] (lv' := [(0, q_r 20), (1, q_i (0 : Int32))]) rfl ?_
  exact lp_X5_explore_28 hK hR _ hF
def F_X5_exploreOne (N : Nat) (m : Mem) (a1 : Nat) : Option (Int32 × Mem) :=
  calv (F_X6_take N m 21 a1) fun m2 =>
  calv (F_X6_takeNothing N m2 24) fun m4 =>
  bnd (mup m4 20 2 (0 : Int32)) fun m5 =>
  cal (F_X5_explore N m5) fun r8 m7 =>
  gd (isb r8) <|
  some (r8, m7)
set_option maxRecDepth 100000 in
set_option maxHeartbeats 4000000 in
theorem tr_X5_exploreOne {N : Nat} {m m' : Mem} {r : Int32} {a1 : Nat} (hk1 : knd a1 = 3) (hF : F_X5_exploreOne N m a1 = some (r, m')) : Tr yX5_exploreOne wsX5_exploreOne 3 70 [q_r 20, q_r a1] m (some r) m' := by
  refine tr_of (bytes := cX5_exploreOne) (maxL := 2) (ret := (some .boolean)) (by decide) rfl (Nat.le_of_ble_eq_true rfl) (fun K hK hR => ?_)
  have hK : KOK K cX5_exploreOne 2 RX5 wsX5_exploreOne 3 0 70 := hK
  show AW K 0 0 [(0, q_r 20), (1, q_r a1)] [] m
  unfold F_X5_exploreOne at hF
  refine aw_aload_n hK 0 rfl dX5_exploreOne_0 ?_
  refine gf_5_0 hK rfl (21) rfl (List.mem_of_getElem? (i := 1) rfl) dX5_exploreOne_1 ?_
  refine aw_aload_n hK 1 rfl dX5_exploreOne_4 ?_
  obtain ⟨m2, h1, hF⟩ := calv_some hF
  refine aw_cv hK 6 (as := [q_r a1]) (tr_X6_take rfl hk1 h1) gX5_exploreOne_X6_take rfl rfl rfl (by decide) (na := 1) (by decide +kernel) rfl ⟨by decide, by decide⟩ (Nat.zero_le _) (Nat.le_of_ble_eq_true rfl) dX5_exploreOne_5 ?_
  refine aw_aload_n hK 0 rfl dX5_exploreOne_8 ?_
  refine gf_5_1 hK rfl (24) rfl (List.mem_of_getElem? (i := 2) rfl) dX5_exploreOne_9 ?_
  obtain ⟨m4, h3, hF⟩ := calv_some hF
  refine aw_cv hK 6 (as := []) (tr_X6_takeNothing rfl h3) gX5_exploreOne_X6_takeNothing rfl rfl rfl (by decide) (na := 0) (by decide +kernel) rfl ⟨by decide, by decide⟩ (Nat.zero_le _) (Nat.le_of_ble_eq_true rfl) dX5_exploreOne_12 ?_
  refine aw_aload_n hK 0 rfl dX5_exploreOne_15 ?_
  refine aw_iconst hK (0) rfl dX5_exploreOne_16 ?_
  refine pf_5_2 hK rfl (List.mem_of_getElem? (i := 3) rfl) dX5_exploreOne_17 ?_
  obtain ⟨m5, hm5, hF⟩ := bnd_some hF
  refine aw_mm hm5 ?_
  refine aw_aload_n hK 0 rfl dX5_exploreOne_20 ?_
  obtain ⟨r8, m7, h6, hF⟩ := cal_some hF
  refine aw_cv hK 5 (as := []) (tr_X5_explore h6) gX5_exploreOne_X5_explore rfl rfl rfl (by decide) (na := 0) (by decide +kernel) rfl ⟨by decide, by decide⟩ (Nat.zero_le _) (Nat.le_of_ble_eq_true rfl) dX5_exploreOne_21 ?_
  obtain ⟨g9, hF⟩ := gd_some hF
  obtain ⟨rfl, rfl⟩ := so_inj hF
  exact aw_iret hK hR (isb_narrow g9) dX5_exploreOne_24
def B_X6_hasEndIn_14 (N : Nat) (m : Mem) (s0 : Int32) : Option (Int32 × Mem) :=
  gd (isb s0) <|
  some (s0, m)
set_option maxRecDepth 100000 in
set_option maxHeartbeats 4000000 in
theorem bk_X6_hasEndIn_14 {N : Nat} {K : KT} {m' : Mem} {r : Int32} (hK : KOK K cX6_hasEndIn 2 RX6 wsX6_hasEndIn 0 0 0) (hR : KRet K (some .boolean) (some r) m') {m : Mem} {s0 : Int32} (hF : B_X6_hasEndIn_14 N m s0 = some (r, m')) : AW K 0 14 [] [q_i s0] m := by
  unfold B_X6_hasEndIn_14 at hF
  obtain ⟨g1, hF⟩ := gd_some hF
  obtain ⟨rfl, rfl⟩ := so_inj hF
  exact aw_iret hK hR (isb_narrow g1) dX6_hasEndIn_14
def F_X6_hasEndIn (N : Nat) (m : Mem) (a0 : Nat) (x1 : Int32) : Option (Int32 × Mem) :=
  if (x1 &&& (m a0 3)) = (0 : Int32) then (
    B_X6_hasEndIn_14 N m (0 : Int32)
  ) else (
    B_X6_hasEndIn_14 N m (1 : Int32)
  )
set_option maxRecDepth 100000 in
set_option maxHeartbeats 4000000 in
theorem tr_X6_hasEndIn {N : Nat} {m m' : Mem} {r : Int32} {a0 : Nat} {x1 : Int32} (hk0 : knd a0 = 6) (hF : F_X6_hasEndIn N m a0 x1 = some (r, m')) : Tr yX6_hasEndIn wsX6_hasEndIn 0 0 [q_r a0, q_i x1] m (some r) m' := by
  refine tr_of (bytes := cX6_hasEndIn) (maxL := 2) (ret := (some .boolean)) (by decide) rfl (Nat.le_of_ble_eq_true rfl) (fun K hK hR => ?_)
  have hK : KOK K cX6_hasEndIn 2 RX6 wsX6_hasEndIn 0 0 0 := hK
  show AW K 0 0 [(0, q_r a0), (1, q_i x1)] [] m
  unfold F_X6_hasEndIn at hF
  refine aw_iload_n hK 1 rfl dX6_hasEndIn_0 ?_
  refine aw_aload_n hK 0 rfl dX6_hasEndIn_1 ?_
  refine gf_6_3 hK hk0 (List.mem_of_getElem? (i := 1) rfl) dX6_hasEndIn_2 ?_
  refine aw_iand hK dX6_hasEndIn_5 ?_
  refine aw_if_eq hK 13 rfl dX6_hasEndIn_6 (fun hc => ?_) (fun hc => ?_)
  · have hF := if_t hF hc
    refine aw_iconst hK (0) rfl dX6_hasEndIn_13 ?_
    refine aw_sub [] (lv' := []) rfl ?_
    exact bk_X6_hasEndIn_14 hK hR hF
  · have hF := if_f hF hc
    refine aw_iconst hK (1) rfl dX6_hasEndIn_9 ?_
    refine aw_goto hK 14 rfl dX6_hasEndIn_10 ?_
    refine aw_sub [] (lv' := []) rfl ?_
    exact bk_X6_hasEndIn_14 hK hR hF
def B_X5_isWanted_84 (N : Nat) (m : Mem) (s0 : Int32) : Option (Int32 × Mem) :=
  gd (isb s0) <|
  some (s0, m)
set_option maxRecDepth 100000 in
set_option maxHeartbeats 4000000 in
theorem bk_X5_isWanted_84 {N : Nat} {K : KT} {m' : Mem} {r : Int32} (hK : KOK K cX5_isWanted 4 RX5 wsX5_isWanted 1 0 21) (hR : KRet K (some .boolean) (some r) m') {m : Mem} {s0 : Int32} (hF : B_X5_isWanted_84 N m s0 = some (r, m')) : AW K 0 84 [] [q_i s0] m := by
  unfold B_X5_isWanted_84 at hF
  obtain ⟨g10, hF⟩ := gd_some hF
  obtain ⟨rfl, rfl⟩ := so_inj hF
  exact aw_iret hK hR (isb_narrow g10) dX5_isWanted_84
def B_X5_isWanted_83 (N : Nat) (m : Mem) : Option (Int32 × Mem) :=
  B_X5_isWanted_84 N m (0 : Int32)
set_option maxRecDepth 100000 in
set_option maxHeartbeats 4000000 in
theorem bk_X5_isWanted_83 {N : Nat} {K : KT} {m' : Mem} {r : Int32} (hK : KOK K cX5_isWanted 4 RX5 wsX5_isWanted 1 0 21) (hR : KRet K (some .boolean) (some r) m') {m : Mem} (hF : B_X5_isWanted_83 N m = some (r, m')) : AW K 0 83 [] [] m := by
  unfold B_X5_isWanted_83 at hF
  refine aw_iconst hK (0) rfl dX5_isWanted_83 ?_
  refine aw_sub [] (lv' := []) rfl ?_
  exact bk_X5_isWanted_84 hK hR hF
def B_X5_isWanted_49 (N : Nat) (m : Mem) (s0 : Int32) : Option (Int32 × Mem) :=
  gd (isb s0) <|
  some (s0, m)
set_option maxRecDepth 100000 in
set_option maxHeartbeats 4000000 in
theorem bk_X5_isWanted_49 {N : Nat} {K : KT} {m' : Mem} {r : Int32} (hK : KOK K cX5_isWanted 4 RX5 wsX5_isWanted 1 0 21) (hR : KRet K (some .boolean) (some r) m') {m : Mem} {s0 : Int32} (hF : B_X5_isWanted_49 N m s0 = some (r, m')) : AW K 0 49 [] [q_i s0] m := by
  unfold B_X5_isWanted_49 at hF
  obtain ⟨g9, hF⟩ := gd_some hF
  obtain ⟨rfl, rfl⟩ := so_inj hF
  exact aw_iret hK hR (isb_narrow g9) dX5_isWanted_49
def B_X5_isWanted_48 (N : Nat) (m : Mem) : Option (Int32 × Mem) :=
  B_X5_isWanted_49 N m (0 : Int32)
set_option maxRecDepth 100000 in
set_option maxHeartbeats 4000000 in
theorem bk_X5_isWanted_48 {N : Nat} {K : KT} {m' : Mem} {r : Int32} (hK : KOK K cX5_isWanted 4 RX5 wsX5_isWanted 1 0 21) (hR : KRet K (some .boolean) (some r) m') {m : Mem} (hF : B_X5_isWanted_48 N m = some (r, m')) : AW K 0 48 [] [] m := by
  unfold B_X5_isWanted_48 at hF
  refine aw_iconst hK (0) rfl dX5_isWanted_48 ?_
  refine aw_sub [] (lv' := []) rfl ?_
  exact bk_X5_isWanted_49 hK hR hF
def F_X5_isWanted (N : Nat) (m : Mem) (x1 : Int32) : Option (Int32 × Mem) :=
  gd (inb x1 (alen 27)) <|
  cal (F_X6_hasEndIn N m 21 (m 27 (ix x1))) fun r4 m3 =>
  gd (inb x1 (alen 28)) <|
  cal (F_X6_hasEndIn N m3 24 (m3 28 (ix x1))) fun r8 m7 =>
  if (m7 20 2) = (1 : Int32) then (
    if r4 = (0 : Int32) then (
      B_X5_isWanted_48 N m7
    ) else (
      if r8 = (0 : Int32) then (
        B_X5_isWanted_48 N m7
      ) else (
        B_X5_isWanted_49 N m7 (1 : Int32)
      )
    )
  ) else (
    if (m7 20 2) = (2 : Int32) then (
      if r4 = r8 then (
        B_X5_isWanted_84 N m7 (0 : Int32)
      ) else (
        B_X5_isWanted_84 N m7 (1 : Int32)
      )
    ) else (
      if r4 = (0 : Int32) then (
        B_X5_isWanted_83 N m7
      ) else (
        if r8 = (0 : Int32) then (
          B_X5_isWanted_84 N m7 (1 : Int32)
        ) else (
          B_X5_isWanted_83 N m7
        )
      )
    )
  )
set_option maxRecDepth 100000 in
set_option maxHeartbeats 4000000 in
theorem tr_X5_isWanted {N : Nat} {m m' : Mem} {r : Int32} {x1 : Int32} (hF : F_X5_isWanted N m x1 = some (r, m')) : Tr yX5_isWanted wsX5_isWanted 1 21 [q_r 20, q_i x1] m (some r) m' := by
  refine tr_of (bytes := cX5_isWanted) (maxL := 4) (ret := (some .boolean)) (by decide) rfl (Nat.le_of_ble_eq_true rfl) (fun K hK hR => ?_)
  have hK : KOK K cX5_isWanted 4 RX5 wsX5_isWanted 1 0 21 := hK
  show AW K 0 0 [(0, q_r 20), (1, q_i x1)] [] m
  unfold F_X5_isWanted at hF
  refine aw_aload_n hK 0 rfl dX5_isWanted_0 ?_
  refine gf_5_0 hK rfl (21) rfl (List.mem_of_getElem? (i := 1) rfl) dX5_isWanted_1 ?_
  refine aw_aload_n hK 0 rfl dX5_isWanted_4 ?_
  refine gf_5_3 hK rfl (27) rfl (List.mem_of_getElem? (i := 2) rfl) dX5_isWanted_5 ?_
  refine aw_iload_n hK 1 rfl dX5_isWanted_8 ?_
  obtain ⟨g1, hF⟩ := gd_some hF
  refine aw_iald hK rfl g1 dX5_isWanted_9 ?_
  obtain ⟨r4, m3, h2, hF⟩ := cal_some hF
  refine aw_cv hK 6 (as := [q_i (m 27 (ix x1))]) (tr_X6_hasEndIn rfl h2) gX5_isWanted_X6_hasEndIn rfl rfl rfl (by decide) (na := 1) (by decide +kernel) rfl ⟨by decide, by decide⟩ (Nat.zero_le _) (Nat.le_of_ble_eq_true rfl) dX5_isWanted_10 ?_
  refine aw_istore_n hK [(2, q_i r4), (0, q_r 20), (1, q_i x1)] (by decide) rfl dX5_isWanted_13 ?_
  refine aw_aload_n hK 1 rfl dX5_isWanted_14 ?_
  refine gf_5_1 hK rfl (24) rfl (List.mem_of_getElem? (i := 3) rfl) dX5_isWanted_15 ?_
  refine aw_aload_n hK 1 rfl dX5_isWanted_18 ?_
  refine gf_5_4 hK rfl (28) rfl (List.mem_of_getElem? (i := 4) rfl) dX5_isWanted_19 ?_
  refine aw_iload_n hK 2 rfl dX5_isWanted_22 ?_
  obtain ⟨g5, hF⟩ := gd_some hF
  refine aw_iald hK rfl g5 dX5_isWanted_23 ?_
  obtain ⟨r8, m7, h6, hF⟩ := cal_some hF
  refine aw_cv hK 6 (as := [q_i (m3 28 (ix x1))]) (tr_X6_hasEndIn rfl h6) gX5_isWanted_X6_hasEndIn rfl rfl rfl (by decide) (na := 1) (by decide +kernel) rfl ⟨by decide, by decide⟩ (Nat.zero_le _) (Nat.le_of_ble_eq_true rfl) dX5_isWanted_24 ?_
  refine aw_istore_n hK [(3, q_i r8), (2, q_i r4), (0, q_r 20), (1, q_i x1)] (by decide) rfl dX5_isWanted_27 ?_
  refine aw_aload_n hK 2 rfl dX5_isWanted_28 ?_
  refine gf_5_2 hK rfl (List.mem_of_getElem? (i := 5) rfl) dX5_isWanted_29 ?_
  refine aw_iconst hK (1) rfl dX5_isWanted_32 ?_
  refine aw_icmp_ne hK 50 rfl dX5_isWanted_33 (fun hc => ?_) (fun hc => ?_)
  · have hF := if_f hF hc
    refine aw_aload_n hK 2 rfl dX5_isWanted_50 ?_
    refine gf_5_2 hK rfl (List.mem_of_getElem? (i := 5) rfl) dX5_isWanted_51 ?_
    refine aw_iconst hK (2) rfl dX5_isWanted_54 ?_
    refine aw_icmp_ne hK 71 rfl dX5_isWanted_55 (fun hc => ?_) (fun hc => ?_)
    · have hF := if_f hF hc
      refine aw_iload_n hK 1 rfl dX5_isWanted_71 ?_
      refine aw_if_eq hK 83 rfl dX5_isWanted_72 (fun hc => ?_) (fun hc => ?_)
      · have hF := if_t hF hc
        refine aw_sub [] (lv' := []) rfl ?_
        exact bk_X5_isWanted_83 hK hR hF
      · have hF := if_f hF hc
        refine aw_iload_n hK 0 rfl dX5_isWanted_75 ?_
        refine aw_if_ne hK 83 rfl dX5_isWanted_76 (fun hc => ?_) (fun hc => ?_)
        · have hF := if_f hF hc
          refine aw_sub [] (lv' := []) rfl ?_
          exact bk_X5_isWanted_83 hK hR hF
        · have hF := if_t hF hc
          refine aw_iconst hK (1) rfl dX5_isWanted_79 ?_
          refine aw_goto hK 84 rfl dX5_isWanted_80 ?_
          refine aw_sub [] (lv' := []) rfl ?_
          exact bk_X5_isWanted_84 hK hR hF
    · have hF := if_t hF hc
      refine aw_iload_n hK 1 rfl dX5_isWanted_58 ?_
      refine aw_iload_n hK 0 rfl dX5_isWanted_59 ?_
      refine aw_icmp_eq hK 67 rfl dX5_isWanted_60 (fun hc => ?_) (fun hc => ?_)
      · have hF := if_t hF hc
        refine aw_iconst hK (0) rfl dX5_isWanted_67 ?_
        refine aw_goto hK 84 rfl dX5_isWanted_68 ?_
        refine aw_sub [] (lv' := []) rfl ?_
        exact bk_X5_isWanted_84 hK hR hF
      · have hF := if_f hF hc
        refine aw_iconst hK (1) rfl dX5_isWanted_63 ?_
        refine aw_goto hK 84 rfl dX5_isWanted_64 ?_
        refine aw_sub [] (lv' := []) rfl ?_
        exact bk_X5_isWanted_84 hK hR hF
  · have hF := if_t hF hc
    refine aw_iload_n hK 1 rfl dX5_isWanted_36 ?_
    refine aw_if_eq hK 48 rfl dX5_isWanted_37 (fun hc => ?_) (fun hc => ?_)
    · have hF := if_t hF hc
      refine aw_sub [] (lv' := []) rfl ?_
      exact bk_X5_isWanted_48 hK hR hF
    · have hF := if_f hF hc
      refine aw_iload_n hK 0 rfl dX5_isWanted_40 ?_
      refine aw_if_eq hK 48 rfl dX5_isWanted_41 (fun hc => ?_) (fun hc => ?_)
      · have hF := if_t hF hc
        refine aw_sub [] (lv' := []) rfl ?_
        exact bk_X5_isWanted_48 hK hR hF
      · have hF := if_f hF hc
        refine aw_iconst hK (1) rfl dX5_isWanted_44 ?_
        refine aw_goto hK 49 rfl dX5_isWanted_45 ?_
        refine aw_sub [] (lv' := []) rfl ?_
        exact bk_X5_isWanted_49 hK hR hF
