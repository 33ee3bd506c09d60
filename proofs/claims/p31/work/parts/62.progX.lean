def S_X7_turn_26 (N : Nat) (rec_26 : Mem → Nat → Int32 → Option ((Int32 ⊕ Nat) × Mem)) (m : Mem) (a2 : Nat) (x3 : Int32) : Option ((Int32 ⊕ Nat) × Mem) :=
  if (m (a2 + 1) 2) ≤ x3 then (
    calv (F_X1_addEndsOf N m a2 (0 : Int32)) fun m10 =>
    calx (F_X7_keepDraft N m10) fun r13 m12 =>
    some (.inl r13, m12)
  ) else (
    gd (inb x3 (alen ((a2 + 1) + 1))) <|
    bnd (m ((a2 + 1) + 1) (ix x3)) fun y16 =>
    gd (inb x3 (alen ((a2 + 1) + 2))) <|
    calv (F_X1_addArc N m (P_X7_fromOf y16) (P_X7_lowerOf y16) (P_X7_upperOf y16) (m ((a2 + 1) + 2) (ix x3)) (P_X7_toOf y16)) fun m19 =>
    bnd (x3 + (1 : Int32)) fun y20 =>
    rec_26 m19 a2 y20
  )
def L_X7_turn_26 (N : Nat) : Nat → Mem → Nat → Int32 → Option ((Int32 ⊕ Nat) × Mem)
  | 0 => fun _ _ _ => none
  | f + 1 => S_X7_turn_26 N (L_X7_turn_26 N f)
set_option maxRecDepth 100000 in
set_option maxHeartbeats 4000000 in
theorem lp_X7_turn_26 {N : Nat} {K : KT} {m' : Mem} {res : Int32 ⊕ Nat} (hK : KOK K cX7_turn 5 RX7 wsX7_turn 7 2 114) (hR : KX K (some .int) (xo true res) m' 2) : ∀ (f : Nat) {m : Mem} {a2 : Nat} {x3 : Int32} (hk2 : knd a2 = 3), L_X7_turn_26 N f m a2 x3 = some (res, m') → AW K 1 26 [(0, q_r 0), (2, q_r a2), (3, q_i x3)] [] m := by
  intro f
  induction f with
  | zero => intro m a2 x3 hk2 hF; cases hF
  | succ f hrec_26 =>
    intro m a2 x3 hk2 hF
    have hF : S_X7_turn_26 N (L_X7_turn_26 N f) m a2 x3 = some (res, m') := hF
    unfold S_X7_turn_26 at hF
    refine aw_iload_n hK 2 rfl dX7_turn_26 ?_
    refine aw_aload_n hK 1 rfl dX7_turn_27 ?_
    refine gf_3_0 hK hk2 (a2 + 1) rfl (List.mem_of_getElem? (i := 4) rfl) dX7_turn_28 ?_
    refine gf_0_2 hK (kM1 hk2) (List.mem_of_getElem? (i := 5) rfl) dX7_turn_31 ?_
    refine aw_icmp_ge hK 90 rfl dX7_turn_34 (fun hc => ?_) (fun hc => ?_)
    · have hF := if_t hF hc
      refine aw_aload_n hK 0 rfl dX7_turn_90 ?_
      refine gf_7_4 hK rfl (3) rfl (List.mem_of_getElem? (i := 2) rfl) dX7_turn_91 ?_
      refine aw_aload_n hK 1 rfl dX7_turn_94 ?_
      refine aw_iconst hK (0) rfl dX7_turn_95 ?_
      obtain ⟨m10, h9, hF⟩ := calv_some hF
      refine aw_cv hK 1 (as := [q_r a2, q_i (0 : Int32)]) (tr_X1_addEndsOf hk2 h9) gX7_turn_X1_addEndsOf rfl rfl rfl (by decide) (na := 2) (by decide +kernel) rfl ⟨by decide, by decide⟩ (Nat.le_of_ble_eq_true rfl) (Nat.le_of_ble_eq_true rfl) dX7_turn_96 ?_
      refine aw_aload_n hK 0 rfl dX7_turn_99 ?_
      rcases calx_some hF with ⟨r13, m12, h11, hF⟩ | ⟨x_14, m12, h11, hF⟩
      · refine aw_cvXr hK (kxb hR) 7 (as := []) (trX_X7_keepDraft h11) gX7_turn_X7_keepDraft rfl rfl rfl (by decide) (na := 0) (by decide +kernel) rfl ⟨by decide, by decide⟩ (Nat.le_of_ble_eq_true rfl) (Nat.le_of_ble_eq_true rfl) dX7_turn_100 ?_
        obtain ⟨rfl, rfl⟩ := so_inj hF
        exact aw_iretX hK hR rfl (Nat.le_of_ble_eq_true rfl) dX7_turn_103
      · obtain ⟨rfl, rfl⟩ := Prod.mk.inj hF
        exact aw_cvXx hK hR 7 (as := []) (trX_X7_keepDraft h11) gX7_turn_X7_keepDraft rfl rfl rfl (by decide) (na := 0) (by decide +kernel) rfl ⟨by decide, by decide⟩ (Nat.le_of_ble_eq_true rfl) (Nat.le_of_ble_eq_true rfl) dX7_turn_100
    · have hF := if_f hF hc
      refine aw_aload_n hK 1 rfl dX7_turn_37 ?_
      refine gf_3_0 hK hk2 (a2 + 1) rfl (List.mem_of_getElem? (i := 4) rfl) dX7_turn_38 ?_
      refine gf_0_0 hK (kM1 hk2) ((a2 + 1) + 1) rfl (List.mem_of_getElem? (i := 6) rfl) dX7_turn_41 ?_
      refine aw_iload_n hK 2 rfl dX7_turn_44 ?_
      obtain ⟨g15, hF⟩ := gd_some hF
      refine aw_iald hK (kA1 (kM1 hk2)) g15 dX7_turn_45 ?_
      obtain ⟨y16, hy16, hF⟩ := bnd_some hF
      refine aw_nm hy16 ?_
      refine aw_istore hK [(4, q_i y16), (0, q_r 0), (2, q_r a2), (3, q_i x3)] (by decide) rfl dX7_turn_46 ?_
      refine aw_aload_n hK 1 rfl dX7_turn_48 ?_
      refine gf_7_4 hK rfl (3) rfl (List.mem_of_getElem? (i := 2) rfl) dX7_turn_49 ?_
      refine aw_iload hK 0 rfl dX7_turn_52 ?_
      refine aw_cs hK (as := [q_i y16]) (trp_X7_fromOf y16 _) gX7_turn_X7_fromOf rfl (na := 1) (by decide +kernel) rfl ⟨by decide, by decide⟩ (Nat.le_of_ble_eq_true rfl) (Nat.le_of_ble_eq_true rfl) dX7_turn_54 ?_
      refine aw_iload hK 0 rfl dX7_turn_57 ?_
      refine aw_cs hK (as := [q_i y16]) (trp_X7_lowerOf y16 _) gX7_turn_X7_lowerOf rfl (na := 1) (by decide +kernel) rfl ⟨by decide, by decide⟩ (Nat.le_of_ble_eq_true rfl) (Nat.le_of_ble_eq_true rfl) dX7_turn_59 ?_
      refine aw_iload hK 0 rfl dX7_turn_62 ?_
      refine aw_cs hK (as := [q_i y16]) (trp_X7_upperOf y16 _) gX7_turn_X7_upperOf rfl (na := 1) (by decide +kernel) rfl ⟨by decide, by decide⟩ (Nat.le_of_ble_eq_true rfl) (Nat.le_of_ble_eq_true rfl) dX7_turn_64 ?_
      refine aw_aload_n hK 2 rfl dX7_turn_67 ?_
      refine gf_3_0 hK hk2 (a2 + 1) rfl (List.mem_of_getElem? (i := 4) rfl) dX7_turn_68 ?_
      refine gf_0_1 hK (kM1 hk2) ((a2 + 1) + 2) rfl (List.mem_of_getElem? (i := 7) rfl) dX7_turn_71 ?_
      refine aw_iload_n hK 3 rfl dX7_turn_74 ?_
      obtain ⟨g17, hF⟩ := gd_some hF
      refine aw_iald hK (kA2 (kM1 hk2)) g17 dX7_turn_75 ?_
      refine aw_iload hK 0 rfl dX7_turn_76 ?_
      refine aw_cs hK (as := [q_i y16]) (trp_X7_toOf y16 _) gX7_turn_X7_toOf rfl (na := 1) (by decide +kernel) rfl ⟨by decide, by decide⟩ (Nat.le_of_ble_eq_true rfl) (Nat.le_of_ble_eq_true rfl) dX7_turn_78 ?_
      obtain ⟨m19, h18, hF⟩ := calv_some hF
      refine aw_cv hK 1 (as := [q_i (P_X7_fromOf y16), q_i (P_X7_lowerOf y16), q_i (P_X7_upperOf y16), q_i (m ((a2 + 1) + 2) (ix x3)), q_i (P_X7_toOf y16)]) (tr_X1_addArc h18) gX7_turn_X1_addArc rfl rfl rfl (by decide) (na := 5) (by decide +kernel) rfl ⟨by decide, by decide⟩ (Nat.le_of_ble_eq_true rfl) (Nat.le_of_ble_eq_true rfl) dX7_turn_81 ?_
      obtain ⟨y20, hy20, hF⟩ := bnd_some hF
      refine aw_iinc hK (cz := 1) 3 [(3, q_i y20), (4, q_i y16), (0, q_r 0), (2, q_r a2)] (by decide) rfl rfl hy20 rfl dX7_turn_84 ?_
      refine aw_goto hK 26 rfl dX7_turn_87 ?_
      refine aw_sub [2, 3, 0] (lv' := [(0, q_r 0), (2, q_r a2), (3, q_i y20)]) rfl ?_
      exact hrec_26 hk2 hF
def F_X7_turn (N : Nat) (m : Mem) (x1 : Int32) : Option ((Int32 ⊕ Nat) × Mem) :=
  calx (F_X7_needMachine N m x1) fun r3 m2 =>
  gd (inb x1 (alen 2)) <|
  bnd (200 + 4 * ix x1) fun q6 =>
  calv (F_X1_begin N m2 (m2 q6 1) (0 : Int32)) fun m8 =>
  L_X7_turn_26 N N m8 q6 (0 : Int32)
set_option maxRecDepth 100000 in
set_option maxHeartbeats 4000000 in
theorem trX_X7_turn {N : Nat} {m m' : Mem} {res : Int32 ⊕ Nat} {x1 : Int32} (hF : F_X7_turn N m x1 = some (res, m')) : TrX yX7_turn wsX7_turn 7 114 2 [q_r 0, q_i x1] m (xo true res) m' := by
  refine trX_of (bytes := cX7_turn) (maxL := 5) (ret := (some .int)) (by decide) rfl (Nat.le_of_ble_eq_true rfl) (fun K hK hR => ?_)
  have hK : KOK K cX7_turn 5 RX7 wsX7_turn 7 2 114 := hK
  show AW K 0 0 [(0, q_r 0), (1, q_i x1)] [] m
  unfold F_X7_turn at hF
  refine aw_aload_n hK 0 rfl dX7_turn_0 ?_
  refine aw_iload_n hK 1 rfl dX7_turn_1 ?_
  rcases calx_some hF with ⟨r3, m2, h1, hF⟩ | ⟨x_4, m2, h1, hF⟩
  · refine aw_cvXr hK (kxb hR) 7 (as := [q_i x1]) (trX_X7_needMachine h1) gX7_turn_X7_needMachine rfl rfl rfl (by decide) (na := 1) (by decide +kernel) rfl ⟨by decide, by decide⟩ (Nat.le_of_ble_eq_true rfl) (Nat.le_of_ble_eq_true rfl) dX7_turn_2 ?_
    refine aw_aload_n hK 0 rfl dX7_turn_5 ?_
    refine gf_7_2 hK rfl (2) rfl (List.mem_of_getElem? (i := 1) rfl) dX7_turn_6 ?_
    refine aw_iload_n hK 1 rfl dX7_turn_9 ?_
    obtain ⟨g5, hF⟩ := gd_some hF
    refine aw_aald hK rfl g5 dX7_turn_10 ?_
    obtain ⟨q6, hq6, hF⟩ := bnd_some hF
    refine aw_nr hq6 ?_
    refine aw_astore_n hK [(2, q_r q6), (0, q_r 0), (1, q_i x1)] (by decide) rfl dX7_turn_11 ?_
    refine aw_aload_n hK 1 rfl dX7_turn_12 ?_
    refine gf_7_4 hK rfl (3) rfl (List.mem_of_getElem? (i := 2) rfl) dX7_turn_13 ?_
    refine aw_aload_n hK 0 rfl dX7_turn_16 ?_
    refine gf_3_1 hK (hq6 ▸ (kMi g5)) (List.mem_of_getElem? (i := 3) rfl) dX7_turn_17 ?_
    refine aw_iconst hK (0) rfl dX7_turn_20 ?_
    obtain ⟨m8, h7, hF⟩ := calv_some hF
    refine aw_cv hK 1 (as := [q_i (m2 q6 1), q_i (0 : Int32)]) (tr_X1_begin h7) gX7_turn_X1_begin rfl rfl rfl (by decide) (na := 2) (by decide +kernel) rfl ⟨by decide, by decide⟩ (Nat.le_of_ble_eq_true rfl) (Nat.le_of_ble_eq_true rfl) dX7_turn_21 ?_
    refine aw_iconst hK (0) rfl dX7_turn_24 ?_
    refine aw_istore_n hK [(3, q_i (0 : Int32)), (2, q_r q6), (0, q_r 0), (1, q_i x1)] (by decide) rfl dX7_turn_25 ?_
    refine aw_sub [2, 1, 0] (lv' := [(0, q_r 0), (2, q_r q6), (3, q_i (0 : Int32))]) rfl ?_
    exact lp_X7_turn_26 hK hR _ (hq6 ▸ (kMi g5)) hF
  · obtain ⟨rfl, rfl⟩ := Prod.mk.inj hF
    exact aw_cvXx hK hR 7 (as := [q_i x1]) (trX_X7_needMachine h1) gX7_turn_X7_needMachine rfl rfl rfl (by decide) (na := 1) (by decide +kernel) rfl ⟨by decide, by decide⟩ (Nat.le_of_ble_eq_true rfl) (Nat.le_of_ble_eq_true rfl) dX7_turn_2
set_option maxRecDepth 100000 in
set_option maxHeartbeats 4000000 in
theorem lpN_X7_turn_26 {N : Nat} {K : KT} {m' : Mem} {r : Int32} (hK : KOK K cX7_turn 5 RX7 wsX7_turn 7 0 114) (hR : KRet K (some .int) (some r) m') : ∀ (f : Nat) {m : Mem} {a2 : Nat} {x3 : Int32} (hk2 : knd a2 = 3), L_X7_turn_26 N f m a2 x3 = some (.inl r, m') → AW K 0 26 [(0, q_r 0), (2, q_r a2), (3, q_i x3)] [] m := by
  intro f
  induction f with
  | zero => intro m a2 x3 hk2 hF; cases hF
  | succ f hrec_26 =>
    intro m a2 x3 hk2 hF
    have hF : S_X7_turn_26 N (L_X7_turn_26 N f) m a2 x3 = some (.inl r, m') := hF
    unfold S_X7_turn_26 at hF
    refine aw_iload_n hK 2 rfl dX7_turn_26 ?_
    refine aw_aload_n hK 1 rfl dX7_turn_27 ?_
    refine gf_3_0 hK hk2 (a2 + 1) rfl (List.mem_of_getElem? (i := 4) rfl) dX7_turn_28 ?_
    refine gf_0_2 hK (kM1 hk2) (List.mem_of_getElem? (i := 5) rfl) dX7_turn_31 ?_
    refine aw_icmp_ge hK 90 rfl dX7_turn_34 (fun hc => ?_) (fun hc => ?_)
    · have hF := if_t hF hc
      refine aw_aload_n hK 0 rfl dX7_turn_90 ?_
      refine gf_7_4 hK rfl (3) rfl (List.mem_of_getElem? (i := 2) rfl) dX7_turn_91 ?_
      refine aw_aload_n hK 1 rfl dX7_turn_94 ?_
      refine aw_iconst hK (0) rfl dX7_turn_95 ?_
      obtain ⟨m10, h9, hF⟩ := calv_some hF
      refine aw_cv hK 1 (as := [q_r a2, q_i (0 : Int32)]) (tr_X1_addEndsOf hk2 h9) gX7_turn_X1_addEndsOf rfl rfl rfl (by decide) (na := 2) (by decide +kernel) rfl ⟨by decide, by decide⟩ (Nat.zero_le _) (Nat.le_of_ble_eq_true rfl) dX7_turn_96 ?_
      refine aw_aload_n hK 0 rfl dX7_turn_99 ?_
      rcases calx_some hF with ⟨r13, m12, h11, hF⟩ | ⟨x_14, m12, h11, hF⟩
      · refine aw_cv hK 7 (as := []) (trN_X7_keepDraft h11) gX7_turn_X7_keepDraft rfl rfl rfl (by decide) (na := 0) (by decide +kernel) rfl ⟨by decide, by decide⟩ (Nat.zero_le _) (Nat.le_of_ble_eq_true rfl) dX7_turn_100 ?_
        obtain ⟨e1, rfl⟩ := so_inj hF
        cases e1
        exact aw_iret hK hR rfl dX7_turn_103
      · cases hF
    · have hF := if_f hF hc
      refine aw_aload_n hK 1 rfl dX7_turn_37 ?_
      refine gf_3_0 hK hk2 (a2 + 1) rfl (List.mem_of_getElem? (i := 4) rfl) dX7_turn_38 ?_
      refine gf_0_0 hK (kM1 hk2) ((a2 + 1) + 1) rfl (List.mem_of_getElem? (i := 6) rfl) dX7_turn_41 ?_
      refine aw_iload_n hK 2 rfl dX7_turn_44 ?_
      obtain ⟨g15, hF⟩ := gd_some hF
      refine aw_iald hK (kA1 (kM1 hk2)) g15 dX7_turn_45 ?_
      obtain ⟨y16, hy16, hF⟩ := bnd_some hF
      refine aw_nm hy16 ?_
      refine aw_istore hK [(4, q_i y16), (0, q_r 0), (2, q_r a2), (3, q_i x3)] (by decide) rfl dX7_turn_46 ?_
      refine aw_aload_n hK 1 rfl dX7_turn_48 ?_
      refine gf_7_4 hK rfl (3) rfl (List.mem_of_getElem? (i := 2) rfl) dX7_turn_49 ?_
      refine aw_iload hK 0 rfl dX7_turn_52 ?_
      refine aw_cs hK (as := [q_i y16]) (trp_X7_fromOf y16 _) gX7_turn_X7_fromOf rfl (na := 1) (by decide +kernel) rfl ⟨by decide, by decide⟩ (Nat.zero_le _) (Nat.le_of_ble_eq_true rfl) dX7_turn_54 ?_
      refine aw_iload hK 0 rfl dX7_turn_57 ?_
      refine aw_cs hK (as := [q_i y16]) (trp_X7_lowerOf y16 _) gX7_turn_X7_lowerOf rfl (na := 1) (by decide +kernel) rfl ⟨by decide, by decide⟩ (Nat.zero_le _) (Nat.le_of_ble_eq_true rfl) dX7_turn_59 ?_
      refine aw_iload hK 0 rfl dX7_turn_62 ?_
      refine aw_cs hK (as := [q_i y16]) (trp_X7_upperOf y16 _) gX7_turn_X7_upperOf rfl (na := 1) (by decide +kernel) rfl ⟨by decide, by decide⟩ (Nat.zero_le _) (Nat.le_of_ble_eq_true rfl) dX7_turn_64 ?_
      refine aw_aload_n hK 2 rfl dX7_turn_67 ?_
      refine gf_3_0 hK hk2 (a2 + 1) rfl (List.mem_of_getElem? (i := 4) rfl) dX7_turn_68 ?_
      refine gf_0_1 hK (kM1 hk2) ((a2 + 1) + 2) rfl (List.mem_of_getElem? (i := 7) rfl) dX7_turn_71 ?_
      refine aw_iload_n hK 3 rfl dX7_turn_74 ?_
      obtain ⟨g17, hF⟩ := gd_some hF
      refine aw_iald hK (kA2 (kM1 hk2)) g17 dX7_turn_75 ?_
      refine aw_iload hK 0 rfl dX7_turn_76 ?_
      refine aw_cs hK (as := [q_i y16]) (trp_X7_toOf y16 _) gX7_turn_X7_toOf rfl (na := 1) (by decide +kernel) rfl ⟨by decide, by decide⟩ (Nat.zero_le _) (Nat.le_of_ble_eq_true rfl) dX7_turn_78 ?_
      obtain ⟨m19, h18, hF⟩ := calv_some hF
      refine aw_cv hK 1 (as := [q_i (P_X7_fromOf y16), q_i (P_X7_lowerOf y16), q_i (P_X7_upperOf y16), q_i (m ((a2 + 1) + 2) (ix x3)), q_i (P_X7_toOf y16)]) (tr_X1_addArc h18) gX7_turn_X1_addArc rfl rfl rfl (by decide) (na := 5) (by decide +kernel) rfl ⟨by decide, by decide⟩ (Nat.zero_le _) (Nat.le_of_ble_eq_true rfl) dX7_turn_81 ?_
      obtain ⟨y20, hy20, hF⟩ := bnd_some hF
      refine aw_iinc hK (cz := 1) 3 [(3, q_i y20), (4, q_i y16), (0, q_r 0), (2, q_r a2)] (by decide) rfl rfl hy20 rfl dX7_turn_84 ?_
      refine aw_goto hK 26 rfl dX7_turn_87 ?_
      refine aw_sub [2, 3, 0] (lv' := [(0, q_r 0), (2, q_r a2), (3, q_i y20)]) rfl ?_
      exact hrec_26 hk2 hF
set_option maxRecDepth 100000 in
set_option maxHeartbeats 4000000 in
theorem trN_X7_turn {N : Nat} {m m' : Mem} {r : Int32} {x1 : Int32} (hF : F_X7_turn N m x1 = some (.inl r, m')) : Tr yX7_turn wsX7_turn 7 114 [q_r 0, q_i x1] m (some r) m' := by
  refine tr_of (bytes := cX7_turn) (maxL := 5) (ret := (some .int)) (by decide) rfl (Nat.le_of_ble_eq_true rfl) (fun K hK hR => ?_)
  have hK : KOK K cX7_turn 5 RX7 wsX7_turn 7 0 114 := hK
  show AW K 0 0 [(0, q_r 0), (1, q_i x1)] [] m
  unfold F_X7_turn at hF
  refine aw_aload_n hK 0 rfl dX7_turn_0 ?_
  refine aw_iload_n hK 1 rfl dX7_turn_1 ?_
  rcases calx_some hF with ⟨r3, m2, h1, hF⟩ | ⟨x_4, m2, h1, hF⟩
  · refine aw_cv hK 7 (as := [q_i x1]) (trN_X7_needMachine h1) gX7_turn_X7_needMachine rfl rfl rfl (by decide) (na := 1) (by decide +kernel) rfl ⟨by decide, by decide⟩ (Nat.zero_le _) (Nat.le_of_ble_eq_true rfl) dX7_turn_2 ?_
    refine aw_aload_n hK 0 rfl dX7_turn_5 ?_
    refine gf_7_2 hK rfl (2) rfl (List.mem_of_getElem? (i := 1) rfl) dX7_turn_6 ?_
    refine aw_iload_n hK 1 rfl dX7_turn_9 ?_
    obtain ⟨g5, hF⟩ := gd_some hF
    refine aw_aald hK rfl g5 dX7_turn_10 ?_
    obtain ⟨q6, hq6, hF⟩ := bnd_some hF
    refine aw_nr hq6 ?_
    refine aw_astore_n hK [(2, q_r q6), (0, q_r 0), (1, q_i x1)] (by decide) rfl dX7_turn_11 ?_
    refine aw_aload_n hK 1 rfl dX7_turn_12 ?_
    refine gf_7_4 hK rfl (3) rfl (List.mem_of_getElem? (i := 2) rfl) dX7_turn_13 ?_
    refine aw_aload_n hK 0 rfl dX7_turn_16 ?_
    refine gf_3_1 hK (hq6 ▸ (kMi g5)) (List.mem_of_getElem? (i := 3) rfl) dX7_turn_17 ?_
    refine aw_iconst hK (0) rfl dX7_turn_20 ?_
    obtain ⟨m8, h7, hF⟩ := calv_some hF
    refine aw_cv hK 1 (as := [q_i (m2 q6 1), q_i (0 : Int32)]) (tr_X1_begin h7) gX7_turn_X1_begin rfl rfl rfl (by decide) (na := 2) (by decide +kernel) rfl ⟨by decide, by decide⟩ (Nat.zero_le _) (Nat.le_of_ble_eq_true rfl) dX7_turn_21 ?_
    refine aw_iconst hK (0) rfl dX7_turn_24 ?_
    refine aw_istore_n hK [(3, q_i (0 : Int32)), (2, q_r q6), (0, q_r 0), (1, q_i x1)] (by decide) rfl dX7_turn_25 ?_
    refine aw_sub [2, 1, 0] (lv' := [(0, q_r 0), (2, q_r q6), (3, q_i (0 : Int32))]) rfl ?_
    exact lpN_X7_turn_26 hK hR _ (hq6 ▸ (kMi g5)) hF
  · cases hF
def F_X7_compose (N : Nat) (m : Mem) (x1 : Int32) (x2 : Int32) : Option ((Int32 ⊕ Nat) × Mem) :=
  calx (F_X7_needMachine N m x1) fun r3 m2 =>
  calx (F_X7_needMachine N m2 x2) fun r7 m6 =>
  gd (inb x1 (alen 2)) <|
  bnd (200 + 4 * ix x1) fun q10 =>
  gd (inb x2 (alen 2)) <|
  bnd (200 + 4 * ix x2) fun q12 =>
  calv (F_X1_begin N m6 ((m6 q10 1) * (m6 q12 1)) (0 : Int32)) fun m14 =>
  cal (F_X7_addMeetings N m14 q10 q12) fun r17 m16 =>
  if r17 = (0 : Int32) then (
    some (.inr 1, m16)
  ) else (
    calv (F_X7_addMovesOfOne N m16 q10 (m16 q12 1)) fun m19 =>
    calv (F_X7_addMovesOfOther N m19 q12 (m19 q10 1)) fun m21 =>
    calv (F_X7_addEndsOfBoth N m21 q10 q12) fun m23 =>
    calx (F_X7_keepDraft N m23) fun r26 m25 =>
    some (.inl r26, m25)
  )
set_option maxRecDepth 100000 in
set_option maxHeartbeats 4000000 in
theorem trX_X7_compose {N : Nat} {m m' : Mem} {res : Int32 ⊕ Nat} {x1 : Int32} {x2 : Int32} (hF : F_X7_compose N m x1 x2 = some (res, m')) : TrX yX7_compose wsX7_compose 7 114 3 [q_r 0, q_i x1, q_i x2] m (xo true res) m' := by
  refine trX_of (bytes := cX7_compose) (maxL := 5) (ret := (some .int)) (by decide) rfl (Nat.le_of_ble_eq_true rfl) (fun K hK hR => ?_)
  have hK : KOK K cX7_compose 5 RX7 wsX7_compose 7 3 114 := hK
  show AW K 0 0 [(0, q_r 0), (1, q_i x1), (2, q_i x2)] [] m
  unfold F_X7_compose at hF
  refine aw_aload_n hK 0 rfl dX7_compose_0 ?_
  refine aw_iload_n hK 1 rfl dX7_compose_1 ?_
  rcases calx_some hF with ⟨r3, m2, h1, hF⟩ | ⟨x_4, m2, h1, hF⟩
  · refine aw_cvXr hK (kxb hR) 7 (as := [q_i x1]) (trX_X7_needMachine h1) gX7_compose_X7_needMachine rfl rfl rfl (by decide) (na := 1) (by decide +kernel) rfl ⟨by decide, by decide⟩ (Nat.le_of_ble_eq_true rfl) (Nat.le_of_ble_eq_true rfl) dX7_compose_2 ?_
    refine aw_aload_n hK 0 rfl dX7_compose_5 ?_
    refine aw_iload_n hK 2 rfl dX7_compose_6 ?_
    rcases calx_some hF with ⟨r7, m6, h5, hF⟩ | ⟨x_8, m6, h5, hF⟩
    · refine aw_cvXr hK (kxb hR) 7 (as := [q_i x2]) (trX_X7_needMachine h5) gX7_compose_X7_needMachine rfl rfl rfl (by decide) (na := 1) (by decide +kernel) rfl ⟨by decide, by decide⟩ (Nat.le_of_ble_eq_true rfl) (Nat.le_of_ble_eq_true rfl) dX7_compose_7 ?_
      refine aw_aload_n hK 0 rfl dX7_compose_10 ?_
      refine gf_7_2 hK rfl (2) rfl (List.mem_of_getElem? (i := 3) rfl) dX7_compose_11 ?_
      refine aw_iload_n hK 1 rfl dX7_compose_14 ?_
      obtain ⟨g9, hF⟩ := gd_some hF
      refine aw_aald hK rfl g9 dX7_compose_15 ?_
      obtain ⟨q10, hq10, hF⟩ := bnd_some hF
      refine aw_nr hq10 ?_
      refine aw_astore_n hK [(3, q_r q10), (0, q_r 0), (1, q_i x1), (2, q_i x2)] (by decide) rfl dX7_compose_16 ?_
      refine aw_aload_n hK 1 rfl dX7_compose_17 ?_
      refine gf_7_2 hK rfl (2) rfl (List.mem_of_getElem? (i := 3) rfl) dX7_compose_18 ?_
      refine aw_iload_n hK 3 rfl dX7_compose_21 ?_
      obtain ⟨g11, hF⟩ := gd_some hF
      refine aw_aald hK rfl g11 dX7_compose_22 ?_
      obtain ⟨q12, hq12, hF⟩ := bnd_some hF
      refine aw_nr hq12 ?_
      refine aw_astore hK [(4, q_r q12), (3, q_r q10), (0, q_r 0), (1, q_i x1), (2, q_i x2)] (by decide) rfl dX7_compose_23 ?_
      refine aw_aload_n hK 2 rfl dX7_compose_25 ?_
      refine gf_7_4 hK rfl (3) rfl (List.mem_of_getElem? (i := 4) rfl) dX7_compose_26 ?_
      refine aw_aload_n hK 1 rfl dX7_compose_29 ?_
      refine gf_3_1 hK (hq10 ▸ (kMi g9)) (List.mem_of_getElem? (i := 5) rfl) dX7_compose_30 ?_
      refine aw_aload hK 0 rfl dX7_compose_33 ?_
      refine gf_3_1 hK (hq12 ▸ (kMi g11)) (List.mem_of_getElem? (i := 5) rfl) dX7_compose_35 ?_
      refine aw_imul hK dX7_compose_38 ?_
      refine aw_iconst hK (0) rfl dX7_compose_39 ?_
      obtain ⟨m14, h13, hF⟩ := calv_some hF
      refine aw_cv hK 1 (as := [q_i ((m6 q10 1) * (m6 q12 1)), q_i (0 : Int32)]) (tr_X1_begin h13) gX7_compose_X1_begin rfl rfl rfl (by decide) (na := 2) (by decide +kernel) rfl ⟨by decide, by decide⟩ (Nat.le_of_ble_eq_true rfl) (Nat.le_of_ble_eq_true rfl) dX7_compose_40 ?_
      refine aw_aload_n hK 2 rfl dX7_compose_43 ?_
      refine aw_aload_n hK 1 rfl dX7_compose_44 ?_
      refine aw_aload hK 0 rfl dX7_compose_45 ?_
      obtain ⟨r17, m16, h15, hF⟩ := cal_some hF
      refine aw_cv hK 7 (as := [q_r q10, q_r q12]) (tr_X7_addMeetings (hq10 ▸ (kMi g9)) (hq12 ▸ (kMi g11)) h15) gX7_compose_X7_addMeetings rfl rfl rfl (by decide) (na := 2) (by decide +kernel) rfl ⟨by decide, by decide⟩ (Nat.le_of_ble_eq_true rfl) (Nat.le_of_ble_eq_true rfl) dX7_compose_47 ?_
      refine aw_if_ne hK 63 rfl dX7_compose_50 (fun hc => ?_) (fun hc => ?_)
      · have hF := if_f hF hc
        refine aw_aload_n hK 2 rfl dX7_compose_63 ?_
        refine aw_aload_n hK 1 rfl dX7_compose_64 ?_
        refine aw_aload hK 0 rfl dX7_compose_65 ?_
        refine gf_3_1 hK (hq12 ▸ (kMi g11)) (List.mem_of_getElem? (i := 5) rfl) dX7_compose_67 ?_
        obtain ⟨m19, h18, hF⟩ := calv_some hF
        refine aw_cv hK 7 (as := [q_r q10, q_i (m16 q12 1)]) (tr_X7_addMovesOfOne (hq10 ▸ (kMi g9)) h18) gX7_compose_X7_addMovesOfOne rfl rfl rfl (by decide) (na := 2) (by decide +kernel) rfl ⟨by decide, by decide⟩ (Nat.le_of_ble_eq_true rfl) (Nat.le_of_ble_eq_true rfl) dX7_compose_70 ?_
        refine aw_aload_n hK 2 rfl dX7_compose_73 ?_
        refine aw_aload hK 0 rfl dX7_compose_74 ?_
        refine aw_aload_n hK 1 rfl dX7_compose_76 ?_
        refine gf_3_1 hK (hq10 ▸ (kMi g9)) (List.mem_of_getElem? (i := 5) rfl) dX7_compose_77 ?_
        obtain ⟨m21, h20, hF⟩ := calv_some hF
        refine aw_cv hK 7 (as := [q_r q12, q_i (m19 q10 1)]) (tr_X7_addMovesOfOther (hq12 ▸ (kMi g11)) h20) gX7_compose_X7_addMovesOfOther rfl rfl rfl (by decide) (na := 2) (by decide +kernel) rfl ⟨by decide, by decide⟩ (Nat.le_of_ble_eq_true rfl) (Nat.le_of_ble_eq_true rfl) dX7_compose_80 ?_
        refine aw_aload_n hK 2 rfl dX7_compose_83 ?_
        refine aw_aload_n hK 1 rfl dX7_compose_84 ?_
        refine aw_aload hK 0 rfl dX7_compose_85 ?_
        obtain ⟨m23, h22, hF⟩ := calv_some hF
        refine aw_cv hK 7 (as := [q_r q10, q_r q12]) (tr_X7_addEndsOfBoth (hq10 ▸ (kMi g9)) (hq12 ▸ (kMi g11)) h22) gX7_compose_X7_addEndsOfBoth rfl rfl rfl (by decide) (na := 2) (by decide +kernel) rfl ⟨by decide, by decide⟩ (Nat.le_of_ble_eq_true rfl) (Nat.le_of_ble_eq_true rfl) dX7_compose_87 ?_
        refine aw_aload_n hK 2 rfl dX7_compose_90 ?_
        rcases calx_some hF with ⟨r26, m25, h24, hF⟩ | ⟨x_27, m25, h24, hF⟩
        · refine aw_cvXr hK (kxb hR) 7 (as := []) (trX_X7_keepDraft h24) gX7_compose_X7_keepDraft rfl rfl rfl (by decide) (na := 0) (by decide +kernel) rfl ⟨by decide, by decide⟩ (Nat.le_of_ble_eq_true rfl) (Nat.le_of_ble_eq_true rfl) dX7_compose_91 ?_
          obtain ⟨rfl, rfl⟩ := so_inj hF
          exact aw_iretX hK hR rfl (Nat.le_of_ble_eq_true rfl) dX7_compose_94
        · obtain ⟨rfl, rfl⟩ := Prod.mk.inj hF
          exact aw_cvXx hK hR 7 (as := []) (trX_X7_keepDraft h24) gX7_compose_X7_keepDraft rfl rfl rfl (by decide) (na := 0) (by decide +kernel) rfl ⟨by decide, by decide⟩ (Nat.le_of_ble_eq_true rfl) (Nat.le_of_ble_eq_true rfl) dX7_compose_91
      · have hF := if_t hF hc
        obtain ⟨rfl, rfl⟩ := so_inj hF
        exact aw_throw (ik := 66) (ic := 70) (x := 1) hK hR (by decide) (List.mem_of_getElem? (i := 1) rfl) (List.mem_of_getElem? (i := 2) rfl) (List.mem_of_getElem? (i := 4) rfl) (by decide +kernel) (by decide +kernel) (by decide +kernel) (by decide +kernel) ⟨by decide, by decide⟩ (Nat.le_of_ble_eq_true rfl) (Nat.le_of_ble_eq_true rfl) dX7_compose_53 dX7_compose_56 dX7_compose_57 dX7_compose_59 dX7_compose_62
    · obtain ⟨rfl, rfl⟩ := Prod.mk.inj hF
      exact aw_cvXx hK hR 7 (as := [q_i x2]) (trX_X7_needMachine h5) gX7_compose_X7_needMachine rfl rfl rfl (by decide) (na := 1) (by decide +kernel) rfl ⟨by decide, by decide⟩ (Nat.le_of_ble_eq_true rfl) (Nat.le_of_ble_eq_true rfl) dX7_compose_7
  · obtain ⟨rfl, rfl⟩ := Prod.mk.inj hF
    exact aw_cvXx hK hR 7 (as := [q_i x1]) (trX_X7_needMachine h1) gX7_compose_X7_needMachine rfl rfl rfl (by decide) (na := 1) (by decide +kernel) rfl ⟨by decide, by decide⟩ (Nat.le_of_ble_eq_true rfl) (Nat.le_of_ble_eq_true rfl) dX7_compose_2
set_option maxRecDepth 100000 in
set_option maxHeartbeats 4000000 in
theorem trN_X7_compose {N : Nat} {m m' : Mem} {r : Int32} {x1 : Int32} {x2 : Int32} (hF : F_X7_compose N m x1 x2 = some (.inl r, m')) : Tr yX7_compose wsX7_compose 7 114 [q_r 0, q_i x1, q_i x2] m (some r) m' := by
  refine tr_of (bytes := cX7_compose) (maxL := 5) (ret := (some .int)) (by decide) rfl (Nat.le_of_ble_eq_true rfl) (fun K hK hR => ?_)
  have hK : KOK K cX7_compose 5 RX7 wsX7_compose 7 0 114 := hK
  show AW K 0 0 [(0, q_r 0), (1, q_i x1), (2, q_i x2)] [] m
  unfold F_X7_compose at hF
  refine aw_aload_n hK 0 rfl dX7_compose_0 ?_
  refine aw_iload_n hK 1 rfl dX7_compose_1 ?_
  rcases calx_some hF with ⟨r3, m2, h1, hF⟩ | ⟨x_4, m2, h1, hF⟩
  · refine aw_cv hK 7 (as := [q_i x1]) (trN_X7_needMachine h1) gX7_compose_X7_needMachine rfl rfl rfl (by decide) (na := 1) (by decide +kernel) rfl ⟨by decide, by decide⟩ (Nat.zero_le _) (Nat.le_of_ble_eq_true rfl) dX7_compose_2 ?_
    refine aw_aload_n hK 0 rfl dX7_compose_5 ?_
    refine aw_iload_n hK 2 rfl dX7_compose_6 ?_
    rcases calx_some hF with ⟨r7, m6, h5, hF⟩ | ⟨x_8, m6, h5, hF⟩
    · refine aw_cv hK 7 (as := [q_i x2]) (trN_X7_needMachine h5) gX7_compose_X7_needMachine rfl rfl rfl (by decide) (na := 1) (by decide +kernel) rfl ⟨by decide, by decide⟩ (Nat.zero_le _) (Nat.le_of_ble_eq_true rfl) dX7_compose_7 ?_
      refine aw_aload_n hK 0 rfl dX7_compose_10 ?_
      refine gf_7_2 hK rfl (2) rfl (List.mem_of_getElem? (i := 3) rfl) dX7_compose_11 ?_
      refine aw_iload_n hK 1 rfl dX7_compose_14 ?_
      obtain ⟨g9, hF⟩ := gd_some hF
      refine aw_aald hK rfl g9 dX7_compose_15 ?_
      obtain ⟨q10, hq10, hF⟩ := bnd_some hF
      refine aw_nr hq10 ?_
      refine aw_astore_n hK [(3, q_r q10), (0, q_r 0), (1, q_i x1), (2, q_i x2)] (by decide) rfl dX7_compose_16 ?_
      refine aw_aload_n hK 1 rfl dX7_compose_17 ?_
      refine gf_7_2 hK rfl (2) rfl (List.mem_of_getElem? (i := 3) rfl) dX7_compose_18 ?_
      refine aw_iload_n hK 3 rfl dX7_compose_21 ?_
      obtain ⟨g11, hF⟩ := gd_some hF
      refine aw_aald hK rfl g11 dX7_compose_22 ?_
      obtain ⟨q12, hq12, hF⟩ := bnd_some hF
      refine aw_nr hq12 ?_
      refine aw_astore hK [(4, q_r q12), (3, q_r q10), (0, q_r 0), (1, q_i x1), (2, q_i x2)] (by decide) rfl dX7_compose_23 ?_
      refine aw_aload_n hK 2 rfl dX7_compose_25 ?_
      refine gf_7_4 hK rfl (3) rfl (List.mem_of_getElem? (i := 4) rfl) dX7_compose_26 ?_
      refine aw_aload_n hK 1 rfl dX7_compose_29 ?_
      refine gf_3_1 hK (hq10 ▸ (kMi g9)) (List.mem_of_getElem? (i := 5) rfl) dX7_compose_30 ?_
      refine aw_aload hK 0 rfl dX7_compose_33 ?_
      refine gf_3_1 hK (hq12 ▸ (kMi g11)) (List.mem_of_getElem? (i := 5) rfl) dX7_compose_35 ?_
      refine aw_imul hK dX7_compose_38 ?_
      refine aw_iconst hK (0) rfl dX7_compose_39 ?_
      obtain ⟨m14, h13, hF⟩ := calv_some hF
      refine aw_cv hK 1 (as := [q_i ((m6 q10 1) * (m6 q12 1)), q_i (0 : Int32)]) (tr_X1_begin h13) gX7_compose_X1_begin rfl rfl rfl (by decide) (na := 2) (by decide +kernel) rfl ⟨by decide, by decide⟩ (Nat.zero_le _) (Nat.le_of_ble_eq_true rfl) dX7_compose_40 ?_
      refine aw_aload_n hK 2 rfl dX7_compose_43 ?_
      refine aw_aload_n hK 1 rfl dX7_compose_44 ?_
      refine aw_aload hK 0 rfl dX7_compose_45 ?_
      obtain ⟨r17, m16, h15, hF⟩ := cal_some hF
      refine aw_cv hK 7 (as := [q_r q10, q_r q12]) (tr_X7_addMeetings (hq10 ▸ (kMi g9)) (hq12 ▸ (kMi g11)) h15) gX7_compose_X7_addMeetings rfl rfl rfl (by decide) (na := 2) (by decide +kernel) rfl ⟨by decide, by decide⟩ (Nat.zero_le _) (Nat.le_of_ble_eq_true rfl) dX7_compose_47 ?_
      refine aw_if_ne hK 63 rfl dX7_compose_50 (fun hc => ?_) (fun hc => ?_)
      · have hF := if_f hF hc
        refine aw_aload_n hK 2 rfl dX7_compose_63 ?_
        refine aw_aload_n hK 1 rfl dX7_compose_64 ?_
        refine aw_aload hK 0 rfl dX7_compose_65 ?_
        refine gf_3_1 hK (hq12 ▸ (kMi g11)) (List.mem_of_getElem? (i := 5) rfl) dX7_compose_67 ?_
        obtain ⟨m19, h18, hF⟩ := calv_some hF
        refine aw_cv hK 7 (as := [q_r q10, q_i (m16 q12 1)]) (tr_X7_addMovesOfOne (hq10 ▸ (kMi g9)) h18) gX7_compose_X7_addMovesOfOne rfl rfl rfl (by decide) (na := 2) (by decide +kernel) rfl ⟨by decide, by decide⟩ (Nat.zero_le _) (Nat.le_of_ble_eq_true rfl) dX7_compose_70 ?_
        refine aw_aload_n hK 2 rfl dX7_compose_73 ?_
        refine aw_aload hK 0 rfl dX7_compose_74 ?_
        refine aw_aload_n hK 1 rfl dX7_compose_76 ?_
        refine gf_3_1 hK (hq10 ▸ (kMi g9)) (List.mem_of_getElem? (i := 5) rfl) dX7_compose_77 ?_
        obtain ⟨m21, h20, hF⟩ := calv_some hF
        refine aw_cv hK 7 (as := [q_r q12, q_i (m19 q10 1)]) (tr_X7_addMovesOfOther (hq12 ▸ (kMi g11)) h20) gX7_compose_X7_addMovesOfOther rfl rfl rfl (by decide) (na := 2) (by decide +kernel) rfl ⟨by decide, by decide⟩ (Nat.zero_le _) (Nat.le_of_ble_eq_true rfl) dX7_compose_80 ?_
        refine aw_aload_n hK 2 rfl dX7_compose_83 ?_
        refine aw_aload_n hK 1 rfl dX7_compose_84 ?_
        refine aw_aload hK 0 rfl dX7_compose_85 ?_
        obtain ⟨m23, h22, hF⟩ := calv_some hF
        refine aw_cv hK 7 (as := [q_r q10, q_r q12]) (tr_X7_addEndsOfBoth (hq10 ▸ (kMi g9)) (hq12 ▸ (kMi g11)) h22) gX7_compose_X7_addEndsOfBoth rfl rfl rfl (by decide) (na := 2) (by decide +kernel) rfl ⟨by decide, by decide⟩ (Nat.zero_le _) (Nat.le_of_ble_eq_true rfl) dX7_compose_87 ?_
        refine aw_aload_n hK 2 rfl dX7_compose_90 ?_
        rcases calx_some hF with ⟨r26, m25, h24, hF⟩ | ⟨x_27, m25, h24, hF⟩
        · refine aw_cv hK 7 (as := []) (trN_X7_keepDraft h24) gX7_compose_X7_keepDraft rfl rfl rfl (by decide) (na := 0) (by decide +kernel) rfl ⟨by decide, by decide⟩ (Nat.zero_le _) (Nat.le_of_ble_eq_true rfl) dX7_compose_91 ?_
          obtain ⟨e1, rfl⟩ := so_inj hF
          cases e1
          exact aw_iret hK hR rfl dX7_compose_94
        · cases hF
      · have hF := if_t hF hc
        cases hF
    · cases hF
  · cases hF
def B_X7_side_68 (N : Nat) (rec_27 : Mem → Int32 → Nat → Int32 → Option ((Int32 ⊕ Nat) × Mem)) (m : Mem) (x2 : Int32) (a3 : Nat) (x4 : Int32) (x5 : Int32) (s0 : Int32) : Option ((Int32 ⊕ Nat) × Mem) :=
  calv (F_X1_addArc N m (P_X7_fromOf x5) s0 s0 (0 : Int32) (P_X7_toOf x5)) fun m18 =>
  bnd (x4 + (1 : Int32)) fun y19 =>
  rec_27 m18 x2 a3 y19
set_option maxRecDepth 100000 in
set_option maxHeartbeats 4000000 in
theorem bk_X7_side_68 {N : Nat} {K : KT} {m' : Mem} {rec_27 : Mem → Int32 → Nat → Int32 → Option ((Int32 ⊕ Nat) × Mem)} {res : Int32 ⊕ Nat} (hK : KOK K cX7_side 7 RX7 wsX7_side 7 2 114) (hR : KX K (some .int) (xo true res) m' 2) (hrec_27 : ∀ {m : Mem} {x2 : Int32} {a3 : Nat} {x4 : Int32} (hk3 : knd a3 = 3), rec_27 m x2 a3 x4 = some (res, m') → AW K 1 27 [(0, q_r 0), (2, q_i x2), (3, q_r a3), (4, q_i x4)] [] m) {m : Mem} {x2 : Int32} {a3 : Nat} {x4 : Int32} {x5 : Int32} {s0 : Int32} (hk3 : knd a3 = 3) (hF : B_X7_side_68 N rec_27 m x2 a3 x4 x5 s0 = some (res, m')) : AW K 1 68 [(0, q_r 0), (2, q_i x2), (3, q_r a3), (4, q_i x4), (5, q_i x5)] [q_i s0] m := by
  unfold B_X7_side_68 at hF
  refine aw_istore hK [(6, q_i s0), (0, q_r 0), (2, q_i x2), (3, q_r a3), (4, q_i x4), (5, q_i x5)] (by decide) rfl dX7_side_68 ?_
  refine aw_aload_n hK 1 rfl dX7_side_70 ?_
  refine gf_7_4 hK rfl (3) rfl (List.mem_of_getElem? (i := 2) rfl) dX7_side_71 ?_
  refine aw_iload hK 5 rfl dX7_side_74 ?_
  refine aw_cs hK (as := [q_i x5]) (trp_X7_fromOf x5 _) gX7_side_X7_fromOf rfl (na := 1) (by decide +kernel) rfl ⟨by decide, by decide⟩ (Nat.le_of_ble_eq_true rfl) (Nat.le_of_ble_eq_true rfl) dX7_side_76 ?_
  refine aw_iload hK 0 rfl dX7_side_79 ?_
  refine aw_iload hK 0 rfl dX7_side_81 ?_
  refine aw_iconst hK (0) rfl dX7_side_83 ?_
  refine aw_iload hK 5 rfl dX7_side_84 ?_
  refine aw_cs hK (as := [q_i x5]) (trp_X7_toOf x5 _) gX7_side_X7_toOf rfl (na := 1) (by decide +kernel) rfl ⟨by decide, by decide⟩ (Nat.le_of_ble_eq_true rfl) (Nat.le_of_ble_eq_true rfl) dX7_side_86 ?_
  obtain ⟨m18, h17, hF⟩ := calv_some hF
  refine aw_cv hK 1 (as := [q_i (P_X7_fromOf x5), q_i s0, q_i s0, q_i (0 : Int32), q_i (P_X7_toOf x5)]) (tr_X1_addArc h17) gX7_side_X1_addArc rfl rfl rfl (by decide) (na := 5) (by decide +kernel) rfl ⟨by decide, by decide⟩ (Nat.le_of_ble_eq_true rfl) (Nat.le_of_ble_eq_true rfl) dX7_side_89 ?_
  obtain ⟨y19, hy19, hF⟩ := bnd_some hF
  refine aw_iinc hK (cz := 1) 4 [(4, q_i y19), (6, q_i s0), (0, q_r 0), (2, q_i x2), (3, q_r a3), (5, q_i x5)] (by decide) rfl rfl hy19 rfl dX7_side_92 ?_
  refine aw_goto hK 27 rfl dX7_side_95 ?_
  refine aw_sub [2, 3, 4, 0] (lv' := [(0, q_r 0), (2, q_i x2), (3, q_r a3), (4, q_i y19)]) rfl ?_
  exact hrec_27 hk3 hF
def S_X7_side_27 (N : Nat) (rec_27 : Mem → Int32 → Nat → Int32 → Option ((Int32 ⊕ Nat) × Mem)) (m : Mem) (x2 : Int32) (a3 : Nat) (x4 : Int32) : Option ((Int32 ⊕ Nat) × Mem) :=
  if (m (a3 + 1) 2) ≤ x4 then (
    calv (F_X1_addEndsOf N m a3 (0 : Int32)) fun m10 =>
    calx (F_X7_keepDraft N m10) fun r13 m12 =>
    some (.inl r13, m12)
  ) else (
    gd (inb x4 (alen ((a3 + 1) + 1))) <|
    bnd (m ((a3 + 1) + 1) (ix x4)) fun y16 =>
    if x2 = (0 : Int32) then (
      B_X7_side_68 N rec_27 m x2 a3 x4 y16 (P_X7_lowerOf y16)
    ) else (
      B_X7_side_68 N rec_27 m x2 a3 x4 y16 (P_X7_upperOf y16)
    )
  )
def L_X7_side_27 (N : Nat) : Nat → Mem → Int32 → Nat → Int32 → Option ((Int32 ⊕ Nat) × Mem)
  | 0 => fun _ _ _ _ => none
  | f + 1 => S_X7_side_27 N (L_X7_side_27 N f)
set_option maxRecDepth 100000 in
set_option maxHeartbeats 4000000 in
theorem lp_X7_side_27 {N : Nat} {K : KT} {m' : Mem} {res : Int32 ⊕ Nat} (hK : KOK K cX7_side 7 RX7 wsX7_side 7 2 114) (hR : KX K (some .int) (xo true res) m' 2) : ∀ (f : Nat) {m : Mem} {x2 : Int32} {a3 : Nat} {x4 : Int32} (hk3 : knd a3 = 3), L_X7_side_27 N f m x2 a3 x4 = some (res, m') → AW K 1 27 [(0, q_r 0), (2, q_i x2), (3, q_r a3), (4, q_i x4)] [] m := by
  intro f
  induction f with
  | zero => intro m x2 a3 x4 hk3 hF; cases hF
  | succ f hrec_27 =>
    intro m x2 a3 x4 hk3 hF
    have hF : S_X7_side_27 N (L_X7_side_27 N f) m x2 a3 x4 = some (res, m') := hF
    unfold S_X7_side_27 at hF
    refine aw_iload hK 3 rfl dX7_side_27 ?_
    refine aw_aload_n hK 2 rfl dX7_side_29 ?_
    refine gf_3_0 hK hk3 (a3 + 1) rfl (List.mem_of_getElem? (i := 4) rfl) dX7_side_30 ?_
    refine gf_0_2 hK (kM1 hk3) (List.mem_of_getElem? (i := 5) rfl) dX7_side_33 ?_
    refine aw_icmp_ge hK 98 rfl dX7_side_36 (fun hc => ?_) (fun hc => ?_)
    · have hF := if_t hF hc
      refine aw_aload_n hK 0 rfl dX7_side_98 ?_
      refine gf_7_4 hK rfl (3) rfl (List.mem_of_getElem? (i := 2) rfl) dX7_side_99 ?_
      refine aw_aload_n hK 2 rfl dX7_side_102 ?_
      refine aw_iconst hK (0) rfl dX7_side_103 ?_
      obtain ⟨m10, h9, hF⟩ := calv_some hF
      refine aw_cv hK 1 (as := [q_r a3, q_i (0 : Int32)]) (tr_X1_addEndsOf hk3 h9) gX7_side_X1_addEndsOf rfl rfl rfl (by decide) (na := 2) (by decide +kernel) rfl ⟨by decide, by decide⟩ (Nat.le_of_ble_eq_true rfl) (Nat.le_of_ble_eq_true rfl) dX7_side_104 ?_
      refine aw_aload_n hK 0 rfl dX7_side_107 ?_
      rcases calx_some hF with ⟨r13, m12, h11, hF⟩ | ⟨x_14, m12, h11, hF⟩
      · refine aw_cvXr hK (kxb hR) 7 (as := []) (trX_X7_keepDraft h11) gX7_side_X7_keepDraft rfl rfl rfl (by decide) (na := 0) (by decide +kernel) rfl ⟨by decide, by decide⟩ (Nat.le_of_ble_eq_true rfl) (Nat.le_of_ble_eq_true rfl) dX7_side_108 ?_
        obtain ⟨rfl, rfl⟩ := so_inj hF
        exact aw_iretX hK hR rfl (Nat.le_of_ble_eq_true rfl) dX7_side_111
      · obtain ⟨rfl, rfl⟩ := Prod.mk.inj hF
        exact aw_cvXx hK hR 7 (as := []) (trX_X7_keepDraft h11) gX7_side_X7_keepDraft rfl rfl rfl (by decide) (na := 0) (by decide +kernel) rfl ⟨by decide, by decide⟩ (Nat.le_of_ble_eq_true rfl) (Nat.le_of_ble_eq_true rfl) dX7_side_108
    · have hF := if_f hF hc
      refine aw_aload_n hK 2 rfl dX7_side_39 ?_
      refine gf_3_0 hK hk3 (a3 + 1) rfl (List.mem_of_getElem? (i := 4) rfl) dX7_side_40 ?_
      refine gf_0_0 hK (kM1 hk3) ((a3 + 1) + 1) rfl (List.mem_of_getElem? (i := 6) rfl) dX7_side_43 ?_
      refine aw_iload hK 3 rfl dX7_side_46 ?_
      obtain ⟨g15, hF⟩ := gd_some hF
      refine aw_iald hK (kA1 (kM1 hk3)) g15 dX7_side_48 ?_
      obtain ⟨y16, hy16, hF⟩ := bnd_some hF
      refine aw_nm hy16 ?_
      refine aw_istore hK [(5, q_i y16), (0, q_r 0), (2, q_i x2), (3, q_r a3), (4, q_i x4)] (by decide) rfl dX7_side_49 ?_
      refine aw_iload_n hK 2 rfl dX7_side_51 ?_
      refine aw_if_eq hK 63 rfl dX7_side_52 (fun hc => ?_) (fun hc => ?_)
      · have hF := if_t hF hc
        refine aw_iload hK 0 rfl dX7_side_63 ?_
        refine aw_cs hK (as := [q_i y16]) (trp_X7_lowerOf y16 _) gX7_side_X7_lowerOf rfl (na := 1) (by decide +kernel) rfl ⟨by decide, by decide⟩ (Nat.le_of_ble_eq_true rfl) (Nat.le_of_ble_eq_true rfl) dX7_side_65 ?_
        refine aw_sub [1, 2, 3, 4, 0] (lv' := [(0, q_r 0), (2, q_i x2), (3, q_r a3), (4, q_i x4), (5, q_i y16)]) rfl ?_
        exact bk_X7_side_68 hK hR hrec_27 hk3 hF
      · have hF := if_f hF hc
        refine aw_iload hK 0 rfl dX7_side_55 ?_
        refine aw_cs hK (as := [q_i y16]) (trp_X7_upperOf y16 _) gX7_side_X7_upperOf rfl (na := 1) (by decide +kernel) rfl ⟨by decide, by decide⟩ (Nat.le_of_ble_eq_true rfl) (Nat.le_of_ble_eq_true rfl) dX7_side_57 ?_
        refine aw_goto hK 68 rfl dX7_side_60 ?_
        refine aw_sub [1, 2, 3, 4, 0] (lv' := [(0, q_r 0), (2, q_i x2), (3, q_r a3), (4, q_i x4), (5, q_i y16)]) rfl ?_
        exact bk_X7_side_68 hK hR hrec_27 hk3 hF
def F_X7_side (N : Nat) (m : Mem) (x1 : Int32) (x2 : Int32) : Option ((Int32 ⊕ Nat) × Mem) :=
  calx (F_X7_needMachine N m x1) fun r3 m2 =>
  gd (inb x1 (alen 2)) <|
  bnd (200 + 4 * ix x1) fun q6 =>
  calv (F_X1_begin N m2 (m2 q6 1) (0 : Int32)) fun m8 =>
  L_X7_side_27 N N m8 x2 q6 (0 : Int32)
set_option maxRecDepth 100000 in
set_option maxHeartbeats 4000000 in
theorem trX_X7_side {N : Nat} {m m' : Mem} {res : Int32 ⊕ Nat} {x1 : Int32} {x2 : Int32} (hF : F_X7_side N m x1 x2 = some (res, m')) : TrX yX7_side wsX7_side 7 114 2 [q_r 0, q_i x1, q_i x2] m (xo true res) m' := by
  refine trX_of (bytes := cX7_side) (maxL := 7) (ret := (some .int)) (by decide) rfl (Nat.le_of_ble_eq_true rfl) (fun K hK hR => ?_)
  have hK : KOK K cX7_side 7 RX7 wsX7_side 7 2 114 := hK
  show AW K 0 0 [(0, q_r 0), (1, q_i x1), (2, q_i x2)] [] m
  unfold F_X7_side at hF
  refine aw_aload_n hK 0 rfl dX7_side_0 ?_
  refine aw_iload_n hK 1 rfl dX7_side_1 ?_
  rcases calx_some hF with ⟨r3, m2, h1, hF⟩ | ⟨x_4, m2, h1, hF⟩
  · refine aw_cvXr hK (kxb hR) 7 (as := [q_i x1]) (trX_X7_needMachine h1) gX7_side_X7_needMachine rfl rfl rfl (by decide) (na := 1) (by decide +kernel) rfl ⟨by decide, by decide⟩ (Nat.le_of_ble_eq_true rfl) (Nat.le_of_ble_eq_true rfl) dX7_side_2 ?_
    refine aw_aload_n hK 0 rfl dX7_side_5 ?_
    refine gf_7_2 hK rfl (2) rfl (List.mem_of_getElem? (i := 1) rfl) dX7_side_6 ?_
    refine aw_iload_n hK 1 rfl dX7_side_9 ?_
    obtain ⟨g5, hF⟩ := gd_some hF
    refine aw_aald hK rfl g5 dX7_side_10 ?_
    obtain ⟨q6, hq6, hF⟩ := bnd_some hF
    refine aw_nr hq6 ?_
    refine aw_astore_n hK [(3, q_r q6), (0, q_r 0), (1, q_i x1), (2, q_i x2)] (by decide) rfl dX7_side_11 ?_
    refine aw_aload_n hK 1 rfl dX7_side_12 ?_
    refine gf_7_4 hK rfl (3) rfl (List.mem_of_getElem? (i := 2) rfl) dX7_side_13 ?_
    refine aw_aload_n hK 0 rfl dX7_side_16 ?_
    refine gf_3_1 hK (hq6 ▸ (kMi g5)) (List.mem_of_getElem? (i := 3) rfl) dX7_side_17 ?_
    refine aw_iconst hK (0) rfl dX7_side_20 ?_
    obtain ⟨m8, h7, hF⟩ := calv_some hF
    refine aw_cv hK 1 (as := [q_i (m2 q6 1), q_i (0 : Int32)]) (tr_X1_begin h7) gX7_side_X1_begin rfl rfl rfl (by decide) (na := 2) (by decide +kernel) rfl ⟨by decide, by decide⟩ (Nat.le_of_ble_eq_true rfl) (Nat.le_of_ble_eq_true rfl) dX7_side_21 ?_
    refine aw_iconst hK (0) rfl dX7_side_24 ?_
    refine aw_istore hK [(4, q_i (0 : Int32)), (3, q_r q6), (0, q_r 0), (1, q_i x1), (2, q_i x2)] (by decide) rfl dX7_side_25 ?_
    refine aw_sub [2, 4, 1, 0] (lv' := [(0, q_r 0), (2, q_i x2), (3, q_r q6), (4, q_i (0 : Int32))]) rfl ?_
    exact lp_X7_side_27 hK hR _ (hq6 ▸ (kMi g5)) hF
  · obtain ⟨rfl, rfl⟩ := Prod.mk.inj hF
    exact aw_cvXx hK hR 7 (as := [q_i x1]) (trX_X7_needMachine h1) gX7_side_X7_needMachine rfl rfl rfl (by decide) (na := 1) (by decide +kernel) rfl ⟨by decide, by decide⟩ (Nat.le_of_ble_eq_true rfl) (Nat.le_of_ble_eq_true rfl) dX7_side_2
set_option maxRecDepth 100000 in
set_option maxHeartbeats 4000000 in
theorem bkN_X7_side_68 {N : Nat} {K : KT} {m' : Mem} {rec_27 : Mem → Int32 → Nat → Int32 → Option ((Int32 ⊕ Nat) × Mem)} {r : Int32} (hK : KOK K cX7_side 7 RX7 wsX7_side 7 0 114) (hR : KRet K (some .int) (some r) m') (hrec_27 : ∀ {m : Mem} {x2 : Int32} {a3 : Nat} {x4 : Int32} (hk3 : knd a3 = 3), rec_27 m x2 a3 x4 = some (.inl r, m') → AW K 0 27 [(0, q_r 0), (2, q_i x2), (3, q_r a3), (4, q_i x4)] [] m) {m : Mem} {x2 : Int32} {a3 : Nat} {x4 : Int32} {x5 : Int32} {s0 : Int32} (hk3 : knd a3 = 3) (hF : B_X7_side_68 N rec_27 m x2 a3 x4 x5 s0 = some (.inl r, m')) : AW K 0 68 [(0, q_r 0), (2, q_i x2), (3, q_r a3), (4, q_i x4), (5, q_i x5)] [q_i s0] m := by
  unfold B_X7_side_68 at hF
  refine aw_istore hK [(6, q_i s0), (0, q_r 0), (2, q_i x2), (3, q_r a3), (4, q_i x4), (5, q_i x5)] (by decide) rfl dX7_side_68 ?_
  refine aw_aload_n hK 1 rfl dX7_side_70 ?_
  refine gf_7_4 hK rfl (3) rfl (List.mem_of_getElem? (i := 2) rfl) dX7_side_71 ?_
  refine aw_iload hK 5 rfl dX7_side_74 ?_
  refine aw_cs hK (as := [q_i x5]) (trp_X7_fromOf x5 _) gX7_side_X7_fromOf rfl (na := 1) (by decide +kernel) rfl ⟨by decide, by decide⟩ (Nat.zero_le _) (Nat.le_of_ble_eq_true rfl) dX7_side_76 ?_
  refine aw_iload hK 0 rfl dX7_side_79 ?_
  refine aw_iload hK 0 rfl dX7_side_81 ?_
  refine aw_iconst hK (0) rfl dX7_side_83 ?_
  refine aw_iload hK 5 rfl dX7_side_84 ?_
  refine aw_cs hK (as := [q_i x5]) (trp_X7_toOf x5 _) gX7_side_X7_toOf rfl (na := 1) (by decide +kernel) rfl ⟨by decide, by decide⟩ (Nat.zero_le _) (Nat.le_of_ble_eq_true rfl) dX7_side_86 ?_
  obtain ⟨m18, h17, hF⟩ := calv_some hF
  refine aw_cv hK 1 (as := [q_i (P_X7_fromOf x5), q_i s0, q_i s0, q_i (0 : Int32), q_i (P_X7_toOf x5)]) (tr_X1_addArc h17) gX7_side_X1_addArc rfl rfl rfl (by decide) (na := 5) (by decide +kernel) rfl ⟨by decide, by decide⟩ (Nat.zero_le _) (Nat.le_of_ble_eq_true rfl) dX7_side_89 ?_
  obtain ⟨y19, hy19, hF⟩ := bnd_some hF
  refine aw_iinc hK (cz := 1) 4 [(4, q_i y19), (6, q_i s0), (0, q_r 0), (2, q_i x2), (3, q_r a3), (5, q_i x5)] (by decide) rfl rfl hy19 rfl dX7_side_92 ?_
  refine aw_goto hK 27 rfl dX7_side_95 ?_
  refine aw_sub [2, 3, 4, 0] (lv' := [(0, q_r 0), (2, q_i x2), (3, q_r a3), (4, q_i y19)]) rfl ?_
  exact hrec_27 hk3 hF
set_option maxRecDepth 100000 in
set_option maxHeartbeats 4000000 in
theorem lpN_X7_side_27 {N : Nat} {K : KT} {m' : Mem} {r : Int32} (hK : KOK K cX7_side 7 RX7 wsX7_side 7 0 114) (hR : KRet K (some .int) (some r) m') : ∀ (f : Nat) {m : Mem} {x2 : Int32} {a3 : Nat} {x4 : Int32} (hk3 : knd a3 = 3), L_X7_side_27 N f m x2 a3 x4 = some (.inl r, m') → AW K 0 27 [(0, q_r 0), (2, q_i x2), (3, q_r a3), (4, q_i x4)] [] m := by
  intro f
  induction f with
  | zero => intro m x2 a3 x4 hk3 hF; cases hF
  | succ f hrec_27 =>
    intro m x2 a3 x4 hk3 hF
    have hF : S_X7_side_27 N (L_X7_side_27 N f) m x2 a3 x4 = some (.inl r, m') := hF
    unfold S_X7_side_27 at hF
    refine aw_iload hK 3 rfl dX7_side_27 ?_
    refine aw_aload_n hK 2 rfl dX7_side_29 ?_
    refine gf_3_0 hK hk3 (a3 + 1) rfl (List.mem_of_getElem? (i := 4) rfl) dX7_side_30 ?_
    refine gf_0_2 hK (kM1 hk3) (List.mem_of_getElem? (i := 5) rfl) dX7_side_33 ?_
    refine aw_icmp_ge hK 98 rfl dX7_side_36 (fun hc => ?_) (fun hc => ?_)
    · have hF := if_t hF hc
      refine aw_aload_n hK 0 rfl dX7_side_98 ?_
      refine gf_7_4 hK rfl (3) rfl (List.mem_of_getElem? (i := 2) rfl) dX7_side_99 ?_
      refine aw_aload_n hK 2 rfl dX7_side_102 ?_
      refine aw_iconst hK (0) rfl dX7_side_103 ?_
      obtain ⟨m10, h9, hF⟩ := calv_some hF
      refine aw_cv hK 1 (as := [q_r a3, q_i (0 : Int32)]) (tr_X1_addEndsOf hk3 h9) gX7_side_X1_addEndsOf rfl rfl rfl (by decide) (na := 2) (by decide +kernel) rfl ⟨by decide, by decide⟩ (Nat.zero_le _) (Nat.le_of_ble_eq_true rfl) dX7_side_104 ?_
      refine aw_aload_n hK 0 rfl dX7_side_107 ?_
      rcases calx_some hF with ⟨r13, m12, h11, hF⟩ | ⟨x_14, m12, h11, hF⟩
      · refine aw_cv hK 7 (as := []) (trN_X7_keepDraft h11) gX7_side_X7_keepDraft rfl rfl rfl (by decide) (na := 0) (by decide +kernel) rfl ⟨by decide, by decide⟩ (Nat.zero_le _) (Nat.le_of_ble_eq_true rfl) dX7_side_108 ?_
        obtain ⟨e1, rfl⟩ := so_inj hF
        cases e1
        exact aw_iret hK hR rfl dX7_side_111
      · cases hF
    · have hF := if_f hF hc
      refine aw_aload_n hK 2 rfl dX7_side_39 ?_
      refine gf_3_0 hK hk3 (a3 + 1) rfl (List.mem_of_getElem? (i := 4) rfl) dX7_side_40 ?_
      refine gf_0_0 hK (kM1 hk3) ((a3 + 1) + 1) rfl (List.mem_of_getElem? (i := 6) rfl) dX7_side_43 ?_
      refine aw_iload hK 3 rfl dX7_side_46 ?_
      obtain ⟨g15, hF⟩ := gd_some hF
      refine aw_iald hK (kA1 (kM1 hk3)) g15 dX7_side_48 ?_
      obtain ⟨y16, hy16, hF⟩ := bnd_some hF
      refine aw_nm hy16 ?_
      refine aw_istore hK [(5, q_i y16), (0, q_r 0), (2, q_i x2), (3, q_r a3), (4, q_i x4)] (by decide) rfl dX7_side_49 ?_
      refine aw_iload_n hK 2 rfl dX7_side_51 ?_
      refine aw_if_eq hK 63 rfl dX7_side_52 (fun hc => ?_) (fun hc => ?_)
      · have hF := if_t hF hc
        refine aw_iload hK 0 rfl dX7_side_63 ?_
        refine aw_cs hK (as := [q_i y16]) (trp_X7_lowerOf y16 _) gX7_side_X7_lowerOf rfl (na := 1) (by decide +kernel) rfl ⟨by decide, by decide⟩ (Nat.zero_le _) (Nat.le_of_ble_eq_true rfl) dX7_side_65 ?_
        refine aw_sub [1, 2, 3, 4, 0] (lv' := [(0, q_r 0), (2, q_i x2), (3, q_r a3), (4, q_i x4), (5, q_i y16)]) rfl ?_
        exact bkN_X7_side_68 hK hR hrec_27 hk3 hF
      · have hF := if_f hF hc
        refine aw_iload hK 0 rfl dX7_side_55 ?_
        refine aw_cs hK (as := [q_i y16]) (trp_X7_upperOf y16 _) gX7_side_X7_upperOf rfl (na := 1) (by decide +kernel) rfl ⟨by decide, by decide⟩ (Nat.zero_le _) (Nat.le_of_ble_eq_true rfl) dX7_side_57 ?_
        refine aw_goto hK 68 rfl dX7_side_60 ?_
        refine aw_sub [1, 2, 3, 4, 0] (lv' := [(0, q_r 0), (2, q_i x2), (3, q_r a3), (4, q_i x4), (5, q_i y16)]) rfl ?_
        exact bkN_X7_side_68 hK hR hrec_27 hk3 hF
set_option maxRecDepth 100000 in
set_option maxHeartbeats 4000000 in
theorem trN_X7_side {N : Nat} {m m' : Mem} {r : Int32} {x1 : Int32} {x2 : Int32} (hF : F_X7_side N m x1 x2 = some (.inl r, m')) : Tr yX7_side wsX7_side 7 114 [q_r 0, q_i x1, q_i x2] m (some r) m' := by
  refine tr_of (bytes := cX7_side) (maxL := 7) (ret := (some .int)) (by decide) rfl (Nat.le_of_ble_eq_true rfl) (fun K hK hR => ?_)
  have hK : KOK K cX7_side 7 RX7 wsX7_side 7 0 114 := hK
  show AW K 0 0 [(0, q_r 0), (1, q_i x1), (2, q_i x2)] [] m
  unfold F_X7_side at hF
  refine aw_aload_n hK 0 rfl dX7_side_0 ?_
  refine aw_iload_n hK 1 rfl dX7_side_1 ?_
  rcases calx_some hF with ⟨r3, m2, h1, hF⟩ | ⟨x_4, m2, h1, hF⟩
  · refine aw_cv hK 7 (as := [q_i x1]) (trN_X7_needMachine h1) gX7_side_X7_needMachine rfl rfl rfl (by decide) (na := 1) (by decide +kernel) rfl ⟨by decide, by decide⟩ (Nat.zero_le _) (Nat.le_of_ble_eq_true rfl) dX7_side_2 ?_
    refine aw_aload_n hK 0 rfl dX7_side_5 ?_
    refine gf_7_2 hK rfl (2) rfl (List.mem_of_getElem? (i := 1) rfl) dX7_side_6 ?_
    refine aw_iload_n hK 1 rfl dX7_side_9 ?_
    obtain ⟨g5, hF⟩ := gd_some hF
    refine aw_aald hK rfl g5 dX7_side_10 ?_
    obtain ⟨q6, hq6, hF⟩ := bnd_some hF
    refine aw_nr hq6 ?_
    refine aw_astore_n hK [(3, q_r q6), (0, q_r 0), (1, q_i x1), (2, q_i x2)] (by decide) rfl dX7_side_11 ?_
    refine aw_aload_n hK 1 rfl dX7_side_12 ?_
    refine gf_7_4 hK rfl (3) rfl (List.mem_of_getElem? (i := 2) rfl) dX7_side_13 ?_
    refine aw_aload_n hK 0 rfl dX7_side_16 ?_
    refine gf_3_1 hK (hq6 ▸ (kMi g5)) (List.mem_of_getElem? (i := 3) rfl) dX7_side_17 ?_
    refine aw_iconst hK (0) rfl dX7_side_20 ?_
    obtain ⟨m8, h7, hF⟩ := calv_some hF
    refine aw_cv hK 1 (as := [q_i (m2 q6 1), q_i (0 : Int32)]) (tr_X1_begin h7) gX7_side_X1_begin rfl rfl rfl (by decide) (na := 2) (by decide +kernel) rfl ⟨by decide, by decide⟩ (Nat.zero_le _) (Nat.le_of_ble_eq_true rfl) dX7_side_21 ?_
    refine aw_iconst hK (0) rfl dX7_side_24 ?_
    refine aw_istore hK [(4, q_i (0 : Int32)), (3, q_r q6), (0, q_r 0), (1, q_i x1), (2, q_i x2)] (by decide) rfl dX7_side_25 ?_
    refine aw_sub [2, 4, 1, 0] (lv' := [(0, q_r 0), (2, q_i x2), (3, q_r q6), (4, q_i (0 : Int32))]) rfl ?_
    exact lpN_X7_side_27 hK hR _ (hq6 ▸ (kMi g5)) hF
  · cases hF
def F_X7_needPlain (N : Nat) (m : Mem) (x1 : Int32) : Option ((Int32 ⊕ Nat) × Mem) :=
  gd (inb x1 (alen 2)) <|
  cal (F_X3_hasPlainArcsAlone N m (200 + 4 * ix x1)) fun r4 m3 =>
  if r4 = (0 : Int32) then (
    some (.inr 1, m3)
  ) else (
    some (.inl 0, m3)
  )
set_option maxRecDepth 100000 in
set_option maxHeartbeats 4000000 in
theorem trX_X7_needPlain {N : Nat} {m m' : Mem} {res : Int32 ⊕ Nat} {x1 : Int32} (hF : F_X7_needPlain N m x1 = some (res, m')) : TrX yX7_needPlain wsX7_needPlain 6 90 1 [q_r 0, q_i x1] m (xo false res) m' := by
  refine trX_of (bytes := cX7_needPlain) (maxL := 2) (ret := none) (by decide) rfl (Nat.le_of_ble_eq_true rfl) (fun K hK hR => ?_)
  have hK : KOK K cX7_needPlain 2 RX7 wsX7_needPlain 6 1 90 := hK
  show AW K 0 0 [(0, q_r 0), (1, q_i x1)] [] m
  unfold F_X7_needPlain at hF
  refine aw_aload_n hK 0 rfl dX7_needPlain_0 ?_
  refine gf_7_2 hK rfl (2) rfl (List.mem_of_getElem? (i := 3) rfl) dX7_needPlain_1 ?_
  refine aw_iload_n hK 1 rfl dX7_needPlain_4 ?_
  obtain ⟨g1, hF⟩ := gd_some hF
  refine aw_aald hK rfl g1 dX7_needPlain_5 ?_
  obtain ⟨r4, m3, h2, hF⟩ := cal_some hF
  refine aw_cv hK 3 (as := []) (tr_X3_hasPlainArcsAlone (kMi g1) h2) gX7_needPlain_X3_hasPlainArcsAlone rfl rfl (kMi g1) (by decide) (na := 0) (by decide +kernel) rfl ⟨by decide, by decide⟩ (Nat.zero_le _) (Nat.le_of_ble_eq_true rfl) dX7_needPlain_6 ?_
  refine aw_if_ne hK 23 rfl dX7_needPlain_9 (fun hc => ?_) (fun hc => ?_)
  · have hF := if_f hF hc
    obtain ⟨rfl, rfl⟩ := so_inj hF
    exact aw_vretX hK hR (Nat.le_of_ble_eq_true rfl) dX7_needPlain_23
  · have hF := if_t hF hc
    obtain ⟨rfl, rfl⟩ := so_inj hF
    exact aw_throwW (ik := 66) (ic := 70) (x := 1) hK hR (by decide) (List.mem_of_getElem? (i := 1) rfl) (List.mem_of_getElem? (i := 2) rfl) (List.mem_of_getElem? (i := 15) rfl) (by decide +kernel) (by decide +kernel) (by decide +kernel) (by decide +kernel) ⟨by decide, by decide⟩ (Nat.le_of_ble_eq_true rfl) (Nat.le_of_ble_eq_true rfl) dX7_needPlain_12 dX7_needPlain_15 dX7_needPlain_16 dX7_needPlain_19 dX7_needPlain_22
set_option maxRecDepth 100000 in
set_option maxHeartbeats 4000000 in
theorem trN_X7_needPlain {N : Nat} {m m' : Mem} {r : Int32} {x1 : Int32} (hF : F_X7_needPlain N m x1 = some (.inl r, m')) : Tr yX7_needPlain wsX7_needPlain 6 90 [q_r 0, q_i x1] m none m' := by
  refine tr_of (bytes := cX7_needPlain) (maxL := 2) (ret := none) (by decide) rfl (Nat.le_of_ble_eq_true rfl) (fun K hK hR => ?_)
  have hK : KOK K cX7_needPlain 2 RX7 wsX7_needPlain 6 0 90 := hK
  show AW K 0 0 [(0, q_r 0), (1, q_i x1)] [] m
  unfold F_X7_needPlain at hF
  refine aw_aload_n hK 0 rfl dX7_needPlain_0 ?_
  refine gf_7_2 hK rfl (2) rfl (List.mem_of_getElem? (i := 3) rfl) dX7_needPlain_1 ?_
  refine aw_iload_n hK 1 rfl dX7_needPlain_4 ?_
  obtain ⟨g1, hF⟩ := gd_some hF
  refine aw_aald hK rfl g1 dX7_needPlain_5 ?_
  obtain ⟨r4, m3, h2, hF⟩ := cal_some hF
  refine aw_cv hK 3 (as := []) (tr_X3_hasPlainArcsAlone (kMi g1) h2) gX7_needPlain_X3_hasPlainArcsAlone rfl rfl (kMi g1) (by decide) (na := 0) (by decide +kernel) rfl ⟨by decide, by decide⟩ (Nat.zero_le _) (Nat.le_of_ble_eq_true rfl) dX7_needPlain_6 ?_
  refine aw_if_ne hK 23 rfl dX7_needPlain_9 (fun hc => ?_) (fun hc => ?_)
  · have hF := if_f hF hc
    obtain ⟨e1, rfl⟩ := so_inj hF
    exact aw_vret hK hR dX7_needPlain_23
  · have hF := if_t hF hc
    cases hF
def F_X7_needSets (N : Nat) (m : Mem) (x0 : Int32) : Option ((Int32 ⊕ Nat) × Mem) :=
  if x0 = (0 : Int32) then (
    some (.inr 1, m)
  ) else (
    some (.inl 0, m)
  )
set_option maxRecDepth 100000 in
set_option maxHeartbeats 4000000 in
theorem trX_X7_needSets {N : Nat} {m m' : Mem} {res : Int32 ⊕ Nat} {x0 : Int32} (hF : F_X7_needSets N m x0 = some (res, m')) : TrX yX7_needSets wsX7_needSets 6 90 1 [q_i x0] m (xo false res) m' := by
  refine trX_of (bytes := cX7_needSets) (maxL := 1) (ret := none) (by decide) rfl (Nat.le_of_ble_eq_true rfl) (fun K hK hR => ?_)
  have hK : KOK K cX7_needSets 1 RX7 wsX7_needSets 6 1 90 := hK
  show AW K 0 0 [(0, q_i x0)] [] m
  unfold F_X7_needSets at hF
  refine aw_iload_n hK 0 rfl dX7_needSets_0 ?_
  refine aw_if_ne hK 15 rfl dX7_needSets_1 (fun hc => ?_) (fun hc => ?_)
  · have hF := if_f hF hc
    obtain ⟨rfl, rfl⟩ := so_inj hF
    exact aw_vretX hK hR (Nat.le_of_ble_eq_true rfl) dX7_needSets_15
  · have hF := if_t hF hc
    obtain ⟨rfl, rfl⟩ := so_inj hF
    exact aw_throwW (ik := 66) (ic := 70) (x := 1) hK hR (by decide) (List.mem_of_getElem? (i := 1) rfl) (List.mem_of_getElem? (i := 2) rfl) (List.mem_of_getElem? (i := 12) rfl) (by decide +kernel) (by decide +kernel) (by decide +kernel) (by decide +kernel) ⟨by decide, by decide⟩ (Nat.le_of_ble_eq_true rfl) (Nat.le_of_ble_eq_true rfl) dX7_needSets_4 dX7_needSets_7 dX7_needSets_8 dX7_needSets_11 dX7_needSets_14
set_option maxRecDepth 100000 in
set_option maxHeartbeats 4000000 in
theorem trN_X7_needSets {N : Nat} {m m' : Mem} {r : Int32} {x0 : Int32} (hF : F_X7_needSets N m x0 = some (.inl r, m')) : Tr yX7_needSets wsX7_needSets 6 90 [q_i x0] m none m' := by
  refine tr_of (bytes := cX7_needSets) (maxL := 1) (ret := none) (by decide) rfl (Nat.le_of_ble_eq_true rfl) (fun K hK hR => ?_)
  have hK : KOK K cX7_needSets 1 RX7 wsX7_needSets 6 0 90 := hK
  show AW K 0 0 [(0, q_i x0)] [] m
  unfold F_X7_needSets at hF
  refine aw_iload_n hK 0 rfl dX7_needSets_0 ?_
  refine aw_if_ne hK 15 rfl dX7_needSets_1 (fun hc => ?_) (fun hc => ?_)
  · have hF := if_f hF hc
    obtain ⟨e1, rfl⟩ := so_inj hF
    exact aw_vret hK hR dX7_needSets_15
  · have hF := if_t hF hc
    cases hF
def F_X7_needStates (N : Nat) (m : Mem) (x0 : Int32) : Option ((Int32 ⊕ Nat) × Mem) :=
  if x0 = (0 : Int32) then (
    some (.inr 1, m)
  ) else (
    some (.inl 0, m)
  )
set_option maxRecDepth 100000 in
set_option maxHeartbeats 4000000 in
theorem trX_X7_needStates {N : Nat} {m m' : Mem} {res : Int32 ⊕ Nat} {x0 : Int32} (hF : F_X7_needStates N m x0 = some (res, m')) : TrX yX7_needStates wsX7_needStates 6 90 1 [q_i x0] m (xo false res) m' := by
  refine trX_of (bytes := cX7_needStates) (maxL := 1) (ret := none) (by decide) rfl (Nat.le_of_ble_eq_true rfl) (fun K hK hR => ?_)
  have hK : KOK K cX7_needStates 1 RX7 wsX7_needStates 6 1 90 := hK
  show AW K 0 0 [(0, q_i x0)] [] m
  unfold F_X7_needStates at hF
  refine aw_iload_n hK 0 rfl dX7_needStates_0 ?_
  refine aw_if_ne hK 15 rfl dX7_needStates_1 (fun hc => ?_) (fun hc => ?_)
  · have hF := if_f hF hc
    obtain ⟨rfl, rfl⟩ := so_inj hF
    exact aw_vretX hK hR (Nat.le_of_ble_eq_true rfl) dX7_needStates_15
  · have hF := if_t hF hc
    obtain ⟨rfl, rfl⟩ := so_inj hF
    exact aw_throwW (ik := 66) (ic := 70) (x := 1) hK hR (by decide) (List.mem_of_getElem? (i := 1) rfl) (List.mem_of_getElem? (i := 2) rfl) (List.mem_of_getElem? (i := 13) rfl) (by decide +kernel) (by decide +kernel) (by decide +kernel) (by decide +kernel) ⟨by decide, by decide⟩ (Nat.le_of_ble_eq_true rfl) (Nat.le_of_ble_eq_true rfl) dX7_needStates_4 dX7_needStates_7 dX7_needStates_8 dX7_needStates_11 dX7_needStates_14
set_option maxRecDepth 100000 in
set_option maxHeartbeats 4000000 in
theorem trN_X7_needStates {N : Nat} {m m' : Mem} {r : Int32} {x0 : Int32} (hF : F_X7_needStates N m x0 = some (.inl r, m')) : Tr yX7_needStates wsX7_needStates 6 90 [q_i x0] m none m' := by
  refine tr_of (bytes := cX7_needStates) (maxL := 1) (ret := none) (by decide) rfl (Nat.le_of_ble_eq_true rfl) (fun K hK hR => ?_)
  have hK : KOK K cX7_needStates 1 RX7 wsX7_needStates 6 0 90 := hK
  show AW K 0 0 [(0, q_i x0)] [] m
  unfold F_X7_needStates at hF
  refine aw_iload_n hK 0 rfl dX7_needStates_0 ?_
  refine aw_if_ne hK 15 rfl dX7_needStates_1 (fun hc => ?_) (fun hc => ?_)
  · have hF := if_f hF hc
    obtain ⟨e1, rfl⟩ := so_inj hF
    exact aw_vret hK hR dX7_needStates_15
  · have hF := if_t hF hc
    cases hF
def F_X7_least (N : Nat) (m : Mem) (x1 : Int32) : Option ((Int32 ⊕ Nat) × Mem) :=
  calx (F_X7_needMachine N m x1) fun r3 m2 =>
  calx (F_X7_needPlain N m2 x1) fun r7 m6 =>
  gd (inb x1 (alen 2)) <|
  cal (F_X5_exploreOne N m6 (200 + 4 * ix x1)) fun r12 m11 =>
  calx (F_X7_needSets N m11 r12) fun r15 m14 =>
  cal (F_X5_draw N m14) fun r19 m18 =>
  calx (F_X7_needStates N m18 r19) fun r22 m21 =>
  calx (F_X7_keepDraft N m21) fun r26 m25 =>
  some (.inl r26, m25)
set_option maxRecDepth 100000 in
set_option maxHeartbeats 4000000 in
theorem trX_X7_least {N : Nat} {m m' : Mem} {res : Int32 ⊕ Nat} {x1 : Int32} (hF : F_X7_least N m x1 = some (res, m')) : TrX yX7_least wsX7_least 7 138 5 [q_r 0, q_i x1] m (xo true res) m' := by
  refine trX_of (bytes := cX7_least) (maxL := 2) (ret := (some .int)) (by decide) rfl (Nat.le_of_ble_eq_true rfl) (fun K hK hR => ?_)
  have hK : KOK K cX7_least 2 RX7 wsX7_least 7 5 138 := hK
  show AW K 0 0 [(0, q_r 0), (1, q_i x1)] [] m
  unfold F_X7_least at hF
  refine aw_aload_n hK 0 rfl dX7_least_0 ?_
  refine aw_iload_n hK 1 rfl dX7_least_1 ?_
  rcases calx_some hF with ⟨r3, m2, h1, hF⟩ | ⟨x_4, m2, h1, hF⟩
  · refine aw_cvXr hK (kxb hR) 7 (as := [q_i x1]) (trX_X7_needMachine h1) gX7_least_X7_needMachine rfl rfl rfl (by decide) (na := 1) (by decide +kernel) rfl ⟨by decide, by decide⟩ (Nat.le_of_ble_eq_true rfl) (Nat.le_of_ble_eq_true rfl) dX7_least_2 ?_
    refine aw_aload_n hK 0 rfl dX7_least_5 ?_
    refine aw_iload_n hK 1 rfl dX7_least_6 ?_
    rcases calx_some hF with ⟨r7, m6, h5, hF⟩ | ⟨x_8, m6, h5, hF⟩
    · refine aw_cvXr hK (kxb hR) 7 (as := [q_i x1]) (trX_X7_needPlain h5) gX7_least_X7_needPlain rfl rfl rfl (by decide) (na := 1) (by decide +kernel) rfl ⟨by decide, by decide⟩ (Nat.le_of_ble_eq_true rfl) (Nat.le_of_ble_eq_true rfl) dX7_least_7 ?_
      refine aw_aload_n hK 0 rfl dX7_least_10 ?_
      refine gf_7_5 hK rfl (20) rfl (List.mem_of_getElem? (i := 1) rfl) dX7_least_11 ?_
      refine aw_aload_n hK 0 rfl dX7_least_14 ?_
      refine gf_7_2 hK rfl (2) rfl (List.mem_of_getElem? (i := 2) rfl) dX7_least_15 ?_
      refine aw_iload_n hK 1 rfl dX7_least_18 ?_
      obtain ⟨g9, hF⟩ := gd_some hF
      refine aw_aald hK rfl g9 dX7_least_19 ?_
      obtain ⟨r12, m11, h10, hF⟩ := cal_some hF
      refine aw_cv hK 5 (as := [q_r (200 + 4 * ix x1)]) (tr_X5_exploreOne (kMi g9) h10) gX7_least_X5_exploreOne rfl rfl rfl (by decide) (na := 1) (by decide +kernel) rfl ⟨by decide, by decide⟩ (Nat.le_of_ble_eq_true rfl) (Nat.le_of_ble_eq_true rfl) dX7_least_20 ?_
      rcases calx_some hF with ⟨r15, m14, h13, hF⟩ | ⟨x_16, m14, h13, hF⟩
      · refine aw_csXr hK (kxb hR) (as := [q_i r12]) (trX_X7_needSets h13) gX7_least_X7_needSets rfl (na := 1) (by decide +kernel) rfl ⟨by decide, by decide⟩ (Nat.le_of_ble_eq_true rfl) (Nat.le_of_ble_eq_true rfl) dX7_least_23 ?_
        refine aw_aload_n hK 0 rfl dX7_least_26 ?_
        refine gf_7_5 hK rfl (20) rfl (List.mem_of_getElem? (i := 1) rfl) dX7_least_27 ?_
        refine aw_aload_n hK 0 rfl dX7_least_30 ?_
        refine gf_7_4 hK rfl (3) rfl (List.mem_of_getElem? (i := 3) rfl) dX7_least_31 ?_
        obtain ⟨r19, m18, h17, hF⟩ := cal_some hF
        refine aw_cv hK 5 (as := [q_r 3]) (tr_X5_draw h17) gX7_least_X5_draw rfl rfl rfl (by decide) (na := 1) (by decide +kernel) rfl ⟨by decide, by decide⟩ (Nat.le_of_ble_eq_true rfl) (Nat.le_of_ble_eq_true rfl) dX7_least_34 ?_
        rcases calx_some hF with ⟨r22, m21, h20, hF⟩ | ⟨x_23, m21, h20, hF⟩
        · refine aw_csXr hK (kxb hR) (as := [q_i r19]) (trX_X7_needStates h20) gX7_least_X7_needStates rfl (na := 1) (by decide +kernel) rfl ⟨by decide, by decide⟩ (Nat.le_of_ble_eq_true rfl) (Nat.le_of_ble_eq_true rfl) dX7_least_37 ?_
          refine aw_aload_n hK 0 rfl dX7_least_40 ?_
          rcases calx_some hF with ⟨r26, m25, h24, hF⟩ | ⟨x_27, m25, h24, hF⟩
          · refine aw_cvXr hK (kxb hR) 7 (as := []) (trX_X7_keepDraft h24) gX7_least_X7_keepDraft rfl rfl rfl (by decide) (na := 0) (by decide +kernel) rfl ⟨by decide, by decide⟩ (Nat.le_of_ble_eq_true rfl) (Nat.le_of_ble_eq_true rfl) dX7_least_41 ?_
            obtain ⟨rfl, rfl⟩ := so_inj hF
            exact aw_iretX hK hR rfl (Nat.le_of_ble_eq_true rfl) dX7_least_44
          · obtain ⟨rfl, rfl⟩ := Prod.mk.inj hF
            exact aw_cvXx hK hR 7 (as := []) (trX_X7_keepDraft h24) gX7_least_X7_keepDraft rfl rfl rfl (by decide) (na := 0) (by decide +kernel) rfl ⟨by decide, by decide⟩ (Nat.le_of_ble_eq_true rfl) (Nat.le_of_ble_eq_true rfl) dX7_least_41
        · obtain ⟨rfl, rfl⟩ := Prod.mk.inj hF
          exact aw_csXx hK hR (as := [q_i r19]) (trX_X7_needStates h20) gX7_least_X7_needStates rfl (na := 1) (by decide +kernel) rfl ⟨by decide, by decide⟩ (Nat.le_of_ble_eq_true rfl) (Nat.le_of_ble_eq_true rfl) dX7_least_37
      · obtain ⟨rfl, rfl⟩ := Prod.mk.inj hF
        exact aw_csXx hK hR (as := [q_i r12]) (trX_X7_needSets h13) gX7_least_X7_needSets rfl (na := 1) (by decide +kernel) rfl ⟨by decide, by decide⟩ (Nat.le_of_ble_eq_true rfl) (Nat.le_of_ble_eq_true rfl) dX7_least_23
    · obtain ⟨rfl, rfl⟩ := Prod.mk.inj hF
      exact aw_cvXx hK hR 7 (as := [q_i x1]) (trX_X7_needPlain h5) gX7_least_X7_needPlain rfl rfl rfl (by decide) (na := 1) (by decide +kernel) rfl ⟨by decide, by decide⟩ (Nat.le_of_ble_eq_true rfl) (Nat.le_of_ble_eq_true rfl) dX7_least_7
  · obtain ⟨rfl, rfl⟩ := Prod.mk.inj hF
    exact aw_cvXx hK hR 7 (as := [q_i x1]) (trX_X7_needMachine h1) gX7_least_X7_needMachine rfl rfl rfl (by decide) (na := 1) (by decide +kernel) rfl ⟨by decide, by decide⟩ (Nat.le_of_ble_eq_true rfl) (Nat.le_of_ble_eq_true rfl) dX7_least_2
set_option maxRecDepth 100000 in
set_option maxHeartbeats 4000000 in
theorem trN_X7_least {N : Nat} {m m' : Mem} {r : Int32} {x1 : Int32} (hF : F_X7_least N m x1 = some (.inl r, m')) : Tr yX7_least wsX7_least 7 138 [q_r 0, q_i x1] m (some r) m' := by
  refine tr_of (bytes := cX7_least) (maxL := 2) (ret := (some .int)) (by decide) rfl (Nat.le_of_ble_eq_true rfl) (fun K hK hR => ?_)
  have hK : KOK K cX7_least 2 RX7 wsX7_least 7 0 138 := hK
  show AW K 0 0 [(0, q_r 0), (1, q_i x1)] [] m
  unfold F_X7_least at hF
  refine aw_aload_n hK 0 rfl dX7_least_0 ?_
  refine aw_iload_n hK 1 rfl dX7_least_1 ?_
  rcases calx_some hF with ⟨r3, m2, h1, hF⟩ | ⟨x_4, m2, h1, hF⟩
  · refine aw_cv hK 7 (as := [q_i x1]) (trN_X7_needMachine h1) gX7_least_X7_needMachine rfl rfl rfl (by decide) (na := 1) (by decide +kernel) rfl ⟨by decide, by decide⟩ (Nat.zero_le _) (Nat.le_of_ble_eq_true rfl) dX7_least_2 ?_
    refine aw_aload_n hK 0 rfl dX7_least_5 ?_
    refine aw_iload_n hK 1 rfl dX7_least_6 ?_
    rcases calx_some hF with ⟨r7, m6, h5, hF⟩ | ⟨x_8, m6, h5, hF⟩
    · refine aw_cv hK 7 (as := [q_i x1]) (trN_X7_needPlain h5) gX7_least_X7_needPlain rfl rfl rfl (by decide) (na := 1) (by decide +kernel) rfl ⟨by decide, by decide⟩ (Nat.zero_le _) (Nat.le_of_ble_eq_true rfl) dX7_least_7 ?_
      refine aw_aload_n hK 0 rfl dX7_least_10 ?_
      refine gf_7_5 hK rfl (20) rfl (List.mem_of_getElem? (i := 1) rfl) dX7_least_11 ?_
      refine aw_aload_n hK 0 rfl dX7_least_14 ?_
      refine gf_7_2 hK rfl (2) rfl (List.mem_of_getElem? (i := 2) rfl) dX7_least_15 ?_
      refine aw_iload_n hK 1 rfl dX7_least_18 ?_
      obtain ⟨g9, hF⟩ := gd_some hF
      refine aw_aald hK rfl g9 dX7_least_19 ?_
      obtain ⟨r12, m11, h10, hF⟩ := cal_some hF
      refine aw_cv hK 5 (as := [q_r (200 + 4 * ix x1)]) (tr_X5_exploreOne (kMi g9) h10) gX7_least_X5_exploreOne rfl rfl rfl (by decide) (na := 1) (by decide +kernel) rfl ⟨by decide, by decide⟩ (Nat.zero_le _) (Nat.le_of_ble_eq_true rfl) dX7_least_20 ?_
      rcases calx_some hF with ⟨r15, m14, h13, hF⟩ | ⟨x_16, m14, h13, hF⟩
      · refine aw_cs hK (as := [q_i r12]) (trN_X7_needSets h13) gX7_least_X7_needSets rfl (na := 1) (by decide +kernel) rfl ⟨by decide, by decide⟩ (Nat.zero_le _) (Nat.le_of_ble_eq_true rfl) dX7_least_23 ?_
        refine aw_aload_n hK 0 rfl dX7_least_26 ?_
        refine gf_7_5 hK rfl (20) rfl (List.mem_of_getElem? (i := 1) rfl) dX7_least_27 ?_
        refine aw_aload_n hK 0 rfl dX7_least_30 ?_
        refine gf_7_4 hK rfl (3) rfl (List.mem_of_getElem? (i := 3) rfl) dX7_least_31 ?_
        obtain ⟨r19, m18, h17, hF⟩ := cal_some hF
        refine aw_cv hK 5 (as := [q_r 3]) (tr_X5_draw h17) gX7_least_X5_draw rfl rfl rfl (by decide) (na := 1) (by decide +kernel) rfl ⟨by decide, by decide⟩ (Nat.zero_le _) (Nat.le_of_ble_eq_true rfl) dX7_least_34 ?_
        rcases calx_some hF with ⟨r22, m21, h20, hF⟩ | ⟨x_23, m21, h20, hF⟩
        · refine aw_cs hK (as := [q_i r19]) (trN_X7_needStates h20) gX7_least_X7_needStates rfl (na := 1) (by decide +kernel) rfl ⟨by decide, by decide⟩ (Nat.zero_le _) (Nat.le_of_ble_eq_true rfl) dX7_least_37 ?_
          refine aw_aload_n hK 0 rfl dX7_least_40 ?_
          rcases calx_some hF with ⟨r26, m25, h24, hF⟩ | ⟨x_27, m25, h24, hF⟩
          · refine aw_cv hK 7 (as := []) (trN_X7_keepDraft h24) gX7_least_X7_keepDraft rfl rfl rfl (by decide) (na := 0) (by decide +kernel) rfl ⟨by decide, by decide⟩ (Nat.zero_le _) (Nat.le_of_ble_eq_true rfl) dX7_least_41 ?_
            obtain ⟨e1, rfl⟩ := so_inj hF
            cases e1
            exact aw_iret hK hR rfl dX7_least_44
          · cases hF
        · cases hF
      · cases hF
    · cases hF
  · cases hF
def B_X7_meet_29 (N : Nat) (m : Mem) (x1 : Int32) (x2 : Int32) (s0 : Int32) : Option ((Int32 ⊕ Nat) × Mem) :=
  gd (inb x1 (alen 2)) <|
  gd (inb x2 (alen 2)) <|
  cal (F_X5_exploreTwo N m (200 + 4 * ix x1) (200 + 4 * ix x2) s0) fun r21 m20 =>
  calx (F_X7_needSets N m20 r21) fun r24 m23 =>
  cal (F_X5_draw N m23) fun r28 m27 =>
  calx (F_X7_needStates N m27 r28) fun r31 m30 =>
  calx (F_X7_keepDraft N m30) fun r35 m34 =>
  some (.inl r35, m34)
set_option maxRecDepth 100000 in
set_option maxHeartbeats 4000000 in
theorem bk_X7_meet_29 {N : Nat} {K : KT} {m' : Mem} {res : Int32 ⊕ Nat} (hK : KOK K cX7_meet 5 RX7 wsX7_meet 7 7 138) (hR : KX K (some .int) (xo true res) m' 7) {m : Mem} {x1 : Int32} {x2 : Int32} {s0 : Int32} (hF : B_X7_meet_29 N m x1 x2 s0 = some (res, m')) : AW K 4 29 [(0, q_r 0), (1, q_i x1), (2, q_i x2)] [q_i s0] m := by
  unfold B_X7_meet_29 at hF
  refine aw_istore hK [(4, q_i s0), (0, q_r 0), (1, q_i x1), (2, q_i x2)] (by decide) rfl dX7_meet_29 ?_
  refine aw_aload_n hK 1 rfl dX7_meet_31 ?_
  refine gf_7_5 hK rfl (20) rfl (List.mem_of_getElem? (i := 1) rfl) dX7_meet_32 ?_
  refine aw_aload_n hK 1 rfl dX7_meet_35 ?_
  refine gf_7_2 hK rfl (2) rfl (List.mem_of_getElem? (i := 2) rfl) dX7_meet_36 ?_
  refine aw_iload_n hK 2 rfl dX7_meet_39 ?_
  obtain ⟨g17, hF⟩ := gd_some hF
  refine aw_aald hK rfl g17 dX7_meet_40 ?_
  refine aw_aload_n hK 1 rfl dX7_meet_41 ?_
  refine gf_7_2 hK rfl (2) rfl (List.mem_of_getElem? (i := 2) rfl) dX7_meet_42 ?_
  refine aw_iload_n hK 3 rfl dX7_meet_45 ?_
  obtain ⟨g18, hF⟩ := gd_some hF
  refine aw_aald hK rfl g18 dX7_meet_46 ?_
  refine aw_iload hK 0 rfl dX7_meet_47 ?_
  obtain ⟨r21, m20, h19, hF⟩ := cal_some hF
  refine aw_cv hK 5 (as := [q_r (200 + 4 * ix x1), q_r (200 + 4 * ix x2), q_i s0]) (tr_X5_exploreTwo (kMi g17) (kMi g18) h19) gX7_meet_X5_exploreTwo rfl rfl rfl (by decide) (na := 3) (by decide +kernel) rfl ⟨by decide, by decide⟩ (Nat.le_of_ble_eq_true rfl) (Nat.le_of_ble_eq_true rfl) dX7_meet_49 ?_
  rcases calx_some hF with ⟨r24, m23, h22, hF⟩ | ⟨x_25, m23, h22, hF⟩
  · refine aw_csXr hK (kxb hR) (as := [q_i r21]) (trX_X7_needSets h22) gX7_meet_X7_needSets rfl (na := 1) (by decide +kernel) rfl ⟨by decide, by decide⟩ (Nat.le_of_ble_eq_true rfl) (Nat.le_of_ble_eq_true rfl) dX7_meet_52 ?_
    refine aw_aload_n hK 1 rfl dX7_meet_55 ?_
    refine gf_7_5 hK rfl (20) rfl (List.mem_of_getElem? (i := 1) rfl) dX7_meet_56 ?_
    refine aw_aload_n hK 1 rfl dX7_meet_59 ?_
    refine gf_7_4 hK rfl (3) rfl (List.mem_of_getElem? (i := 3) rfl) dX7_meet_60 ?_
    obtain ⟨r28, m27, h26, hF⟩ := cal_some hF
    refine aw_cv hK 5 (as := [q_r 3]) (tr_X5_draw h26) gX7_meet_X5_draw rfl rfl rfl (by decide) (na := 1) (by decide +kernel) rfl ⟨by decide, by decide⟩ (Nat.le_of_ble_eq_true rfl) (Nat.le_of_ble_eq_true rfl) dX7_meet_63 ?_
    rcases calx_some hF with ⟨r31, m30, h29, hF⟩ | ⟨x_32, m30, h29, hF⟩
    · refine aw_csXr hK (kxb hR) (as := [q_i r28]) (trX_X7_needStates h29) gX7_meet_X7_needStates rfl (na := 1) (by decide +kernel) rfl ⟨by decide, by decide⟩ (Nat.le_of_ble_eq_true rfl) (Nat.le_of_ble_eq_true rfl) dX7_meet_66 ?_
      refine aw_aload_n hK 1 rfl dX7_meet_69 ?_
      rcases calx_some hF with ⟨r35, m34, h33, hF⟩ | ⟨x_36, m34, h33, hF⟩
      · refine aw_cvXr hK (kxb hR) 7 (as := []) (trX_X7_keepDraft h33) gX7_meet_X7_keepDraft rfl rfl rfl (by decide) (na := 0) (by decide +kernel) rfl ⟨by decide, by decide⟩ (Nat.le_of_ble_eq_true rfl) (Nat.le_of_ble_eq_true rfl) dX7_meet_70 ?_
        obtain ⟨rfl, rfl⟩ := so_inj hF
        exact aw_iretX hK hR rfl (Nat.le_of_ble_eq_true rfl) dX7_meet_73
      · obtain ⟨rfl, rfl⟩ := Prod.mk.inj hF
        exact aw_cvXx hK hR 7 (as := []) (trX_X7_keepDraft h33) gX7_meet_X7_keepDraft rfl rfl rfl (by decide) (na := 0) (by decide +kernel) rfl ⟨by decide, by decide⟩ (Nat.le_of_ble_eq_true rfl) (Nat.le_of_ble_eq_true rfl) dX7_meet_70
    · obtain ⟨rfl, rfl⟩ := Prod.mk.inj hF
      exact aw_csXx hK hR (as := [q_i r28]) (trX_X7_needStates h29) gX7_meet_X7_needStates rfl (na := 1) (by decide +kernel) rfl ⟨by decide, by decide⟩ (Nat.le_of_ble_eq_true rfl) (Nat.le_of_ble_eq_true rfl) dX7_meet_66
  · obtain ⟨rfl, rfl⟩ := Prod.mk.inj hF
    exact aw_csXx hK hR (as := [q_i r21]) (trX_X7_needSets h22) gX7_meet_X7_needSets rfl (na := 1) (by decide +kernel) rfl ⟨by decide, by decide⟩ (Nat.le_of_ble_eq_true rfl) (Nat.le_of_ble_eq_true rfl) dX7_meet_52
def F_X7_meet (N : Nat) (m : Mem) (x1 : Int32) (x2 : Int32) (x3 : Int32) : Option ((Int32 ⊕ Nat) × Mem) :=
  calx (F_X7_needMachine N m x1) fun r3 m2 =>
  calx (F_X7_needMachine N m2 x2) fun r7 m6 =>
  calx (F_X7_needPlain N m6 x1) fun r11 m10 =>
  calx (F_X7_needPlain N m10 x2) fun r15 m14 =>
  if x3 = (0 : Int32) then (
    B_X7_meet_29 N m14 x1 x2 (0 : Int32)
  ) else (
    B_X7_meet_29 N m14 x1 x2 (1 : Int32)
  )
set_option maxRecDepth 100000 in
set_option maxHeartbeats 4000000 in
theorem trX_X7_meet {N : Nat} {m m' : Mem} {res : Int32 ⊕ Nat} {x1 : Int32} {x2 : Int32} {x3 : Int32} (hF : F_X7_meet N m x1 x2 x3 = some (res, m')) : TrX yX7_meet wsX7_meet 7 138 7 [q_r 0, q_i x1, q_i x2, q_i x3] m (xo true res) m' := by
  refine trX_of (bytes := cX7_meet) (maxL := 5) (ret := (some .int)) (by decide) rfl (Nat.le_of_ble_eq_true rfl) (fun K hK hR => ?_)
  have hK : KOK K cX7_meet 5 RX7 wsX7_meet 7 7 138 := hK
  show AW K 0 0 [(0, q_r 0), (1, q_i x1), (2, q_i x2), (3, q_i x3)] [] m
  unfold F_X7_meet at hF
  refine aw_aload_n hK 0 rfl dX7_meet_0 ?_
  refine aw_iload_n hK 1 rfl dX7_meet_1 ?_
  rcases calx_some hF with ⟨r3, m2, h1, hF⟩ | ⟨x_4, m2, h1, hF⟩
  · refine aw_cvXr hK (kxb hR) 7 (as := [q_i x1]) (trX_X7_needMachine h1) gX7_meet_X7_needMachine rfl rfl rfl (by decide) (na := 1) (by decide +kernel) rfl ⟨by decide, by decide⟩ (Nat.le_of_ble_eq_true rfl) (Nat.le_of_ble_eq_true rfl) dX7_meet_2 ?_
    refine aw_aload_n hK 0 rfl dX7_meet_5 ?_
    refine aw_iload_n hK 2 rfl dX7_meet_6 ?_
    rcases calx_some hF with ⟨r7, m6, h5, hF⟩ | ⟨x_8, m6, h5, hF⟩
    · refine aw_cvXr hK (kxb hR) 7 (as := [q_i x2]) (trX_X7_needMachine h5) gX7_meet_X7_needMachine rfl rfl rfl (by decide) (na := 1) (by decide +kernel) rfl ⟨by decide, by decide⟩ (Nat.le_of_ble_eq_true rfl) (Nat.le_of_ble_eq_true rfl) dX7_meet_7 ?_
      refine aw_aload_n hK 0 rfl dX7_meet_10 ?_
      refine aw_iload_n hK 1 rfl dX7_meet_11 ?_
      rcases calx_some hF with ⟨r11, m10, h9, hF⟩ | ⟨x_12, m10, h9, hF⟩
      · refine aw_cvXr hK (kxb hR) 7 (as := [q_i x1]) (trX_X7_needPlain h9) gX7_meet_X7_needPlain rfl rfl rfl (by decide) (na := 1) (by decide +kernel) rfl ⟨by decide, by decide⟩ (Nat.le_of_ble_eq_true rfl) (Nat.le_of_ble_eq_true rfl) dX7_meet_12 ?_
        refine aw_aload_n hK 0 rfl dX7_meet_15 ?_
        refine aw_iload_n hK 2 rfl dX7_meet_16 ?_
        rcases calx_some hF with ⟨r15, m14, h13, hF⟩ | ⟨x_16, m14, h13, hF⟩
        · refine aw_cvXr hK (kxb hR) 7 (as := [q_i x2]) (trX_X7_needPlain h13) gX7_meet_X7_needPlain rfl rfl rfl (by decide) (na := 1) (by decide +kernel) rfl ⟨by decide, by decide⟩ (Nat.le_of_ble_eq_true rfl) (Nat.le_of_ble_eq_true rfl) dX7_meet_17 ?_
          refine aw_iload_n hK 3 rfl dX7_meet_20 ?_
          refine aw_if_eq hK 28 rfl dX7_meet_21 (fun hc => ?_) (fun hc => ?_)
          · have hF := if_t hF hc
            refine aw_iconst hK (0) rfl dX7_meet_28 ?_
            refine aw_sub [0, 1, 2] (lv' := [(0, q_r 0), (1, q_i x1), (2, q_i x2)]) rfl ?_
            exact bk_X7_meet_29 hK hR hF
          · have hF := if_f hF hc
            refine aw_iconst hK (1) rfl dX7_meet_24 ?_
            refine aw_goto hK 29 rfl dX7_meet_25 ?_
            refine aw_sub [0, 1, 2] (lv' := [(0, q_r 0), (1, q_i x1), (2, q_i x2)]) rfl ?_
            exact bk_X7_meet_29 hK hR hF
        · obtain ⟨rfl, rfl⟩ := Prod.mk.inj hF
          exact aw_cvXx hK hR 7 (as := [q_i x2]) (trX_X7_needPlain h13) gX7_meet_X7_needPlain rfl rfl rfl (by decide) (na := 1) (by decide +kernel) rfl ⟨by decide, by decide⟩ (Nat.le_of_ble_eq_true rfl) (Nat.le_of_ble_eq_true rfl) dX7_meet_17
      · obtain ⟨rfl, rfl⟩ := Prod.mk.inj hF
        exact aw_cvXx hK hR 7 (as := [q_i x1]) (trX_X7_needPlain h9) gX7_meet_X7_needPlain rfl rfl rfl (by decide) (na := 1) (by decide +kernel) rfl ⟨by decide, by decide⟩ (Nat.le_of_ble_eq_true rfl) (Nat.le_of_ble_eq_true rfl) dX7_meet_12
    · obtain ⟨rfl, rfl⟩ := Prod.mk.inj hF
      exact aw_cvXx hK hR 7 (as := [q_i x2]) (trX_X7_needMachine h5) gX7_meet_X7_needMachine rfl rfl rfl (by decide) (na := 1) (by decide +kernel) rfl ⟨by decide, by decide⟩ (Nat.le_of_ble_eq_true rfl) (Nat.le_of_ble_eq_true rfl) dX7_meet_7
  · obtain ⟨rfl, rfl⟩ := Prod.mk.inj hF
    exact aw_cvXx hK hR 7 (as := [q_i x1]) (trX_X7_needMachine h1) gX7_meet_X7_needMachine rfl rfl rfl (by decide) (na := 1) (by decide +kernel) rfl ⟨by decide, by decide⟩ (Nat.le_of_ble_eq_true rfl) (Nat.le_of_ble_eq_true rfl) dX7_meet_2
set_option maxRecDepth 100000 in
set_option maxHeartbeats 4000000 in
theorem bkN_X7_meet_29 {N : Nat} {K : KT} {m' : Mem} {r : Int32} (hK : KOK K cX7_meet 5 RX7 wsX7_meet 7 0 138) (hR : KRet K (some .int) (some r) m') {m : Mem} {x1 : Int32} {x2 : Int32} {s0 : Int32} (hF : B_X7_meet_29 N m x1 x2 s0 = some (.inl r, m')) : AW K 0 29 [(0, q_r 0), (1, q_i x1), (2, q_i x2)] [q_i s0] m := by
  unfold B_X7_meet_29 at hF
  refine aw_istore hK [(4, q_i s0), (0, q_r 0), (1, q_i x1), (2, q_i x2)] (by decide) rfl dX7_meet_29 ?_
  refine aw_aload_n hK 1 rfl dX7_meet_31 ?_
  refine gf_7_5 hK rfl (20) rfl (List.mem_of_getElem? (i := 1) rfl) dX7_meet_32 ?_
  refine aw_aload_n hK 1 rfl dX7_meet_35 ?_
  refine gf_7_2 hK rfl (2) rfl (List.mem_of_getElem? (i := 2) rfl) dX7_meet_36 ?_
  refine aw_iload_n hK 2 rfl dX7_meet_39 ?_
  obtain ⟨g17, hF⟩ := gd_some hF
  refine aw_aald hK rfl g17 dX7_meet_40 ?_
  refine aw_aload_n hK 1 rfl dX7_meet_41 ?_
  refine gf_7_2 hK rfl (2) rfl (List.mem_of_getElem? (i := 2) rfl) dX7_meet_42 ?_
  refine aw_iload_n hK 3 rfl dX7_meet_45 ?_
  obtain ⟨g18, hF⟩ := gd_some hF
  refine aw_aald hK rfl g18 dX7_meet_46 ?_
  refine aw_iload hK 0 rfl dX7_meet_47 ?_
  obtain ⟨r21, m20, h19, hF⟩ := cal_some hF
  refine aw_cv hK 5 (as := [q_r (200 + 4 * ix x1), q_r (200 + 4 * ix x2), q_i s0]) (tr_X5_exploreTwo (kMi g17) (kMi g18) h19) gX7_meet_X5_exploreTwo rfl rfl rfl (by decide) (na := 3) (by decide +kernel) rfl ⟨by decide, by decide⟩ (Nat.zero_le _) (Nat.le_of_ble_eq_true rfl) dX7_meet_49 ?_
  rcases calx_some hF with ⟨r24, m23, h22, hF⟩ | ⟨x_25, m23, h22, hF⟩
  · refine aw_cs hK (as := [q_i r21]) (trN_X7_needSets h22) gX7_meet_X7_needSets rfl (na := 1) (by decide +kernel) rfl ⟨by decide, by decide⟩ (Nat.zero_le _) (Nat.le_of_ble_eq_true rfl) dX7_meet_52 ?_
    refine aw_aload_n hK 1 rfl dX7_meet_55 ?_
    refine gf_7_5 hK rfl (20) rfl (List.mem_of_getElem? (i := 1) rfl) dX7_meet_56 ?_
    refine aw_aload_n hK 1 rfl dX7_meet_59 ?_
    refine gf_7_4 hK rfl (3) rfl (List.mem_of_getElem? (i := 3) rfl) dX7_meet_60 ?_
    obtain ⟨r28, m27, h26, hF⟩ := cal_some hF
    refine aw_cv hK 5 (as := [q_r 3]) (tr_X5_draw h26) gX7_meet_X5_draw rfl rfl rfl (by decide) (na := 1) (by decide +kernel) rfl ⟨by decide, by decide⟩ (Nat.zero_le _) (Nat.le_of_ble_eq_true rfl) dX7_meet_63 ?_
    rcases calx_some hF with ⟨r31, m30, h29, hF⟩ | ⟨x_32, m30, h29, hF⟩
    · refine aw_cs hK (as := [q_i r28]) (trN_X7_needStates h29) gX7_meet_X7_needStates rfl (na := 1) (by decide +kernel) rfl ⟨by decide, by decide⟩ (Nat.zero_le _) (Nat.le_of_ble_eq_true rfl) dX7_meet_66 ?_
      refine aw_aload_n hK 1 rfl dX7_meet_69 ?_
      rcases calx_some hF with ⟨r35, m34, h33, hF⟩ | ⟨x_36, m34, h33, hF⟩
      · refine aw_cv hK 7 (as := []) (trN_X7_keepDraft h33) gX7_meet_X7_keepDraft rfl rfl rfl (by decide) (na := 0) (by decide +kernel) rfl ⟨by decide, by decide⟩ (Nat.zero_le _) (Nat.le_of_ble_eq_true rfl) dX7_meet_70 ?_
        obtain ⟨e1, rfl⟩ := so_inj hF
        cases e1
        exact aw_iret hK hR rfl dX7_meet_73
      · cases hF
    · cases hF
  · cases hF
set_option maxRecDepth 100000 in
set_option maxHeartbeats 4000000 in
theorem trN_X7_meet {N : Nat} {m m' : Mem} {r : Int32} {x1 : Int32} {x2 : Int32} {x3 : Int32} (hF : F_X7_meet N m x1 x2 x3 = some (.inl r, m')) : Tr yX7_meet wsX7_meet 7 138 [q_r 0, q_i x1, q_i x2, q_i x3] m (some r) m' := by
  refine tr_of (bytes := cX7_meet) (maxL := 5) (ret := (some .int)) (by decide) rfl (Nat.le_of_ble_eq_true rfl) (fun K hK hR => ?_)
  have hK : KOK K cX7_meet 5 RX7 wsX7_meet 7 0 138 := hK
  show AW K 0 0 [(0, q_r 0), (1, q_i x1), (2, q_i x2), (3, q_i x3)] [] m
  unfold F_X7_meet at hF
  refine aw_aload_n hK 0 rfl dX7_meet_0 ?_
  refine aw_iload_n hK 1 rfl dX7_meet_1 ?_
  rcases calx_some hF with ⟨r3, m2, h1, hF⟩ | ⟨x_4, m2, h1, hF⟩
  · refine aw_cv hK 7 (as := [q_i x1]) (trN_X7_needMachine h1) gX7_meet_X7_needMachine rfl rfl rfl (by decide) (na := 1) (by decide +kernel) rfl ⟨by decide, by decide⟩ (Nat.zero_le _) (Nat.le_of_ble_eq_true rfl) dX7_meet_2 ?_
    refine aw_aload_n hK 0 rfl dX7_meet_5 ?_
    refine aw_iload_n hK 2 rfl dX7_meet_6 ?_
    rcases calx_some hF with ⟨r7, m6, h5, hF⟩ | ⟨x_8, m6, h5, hF⟩
    · refine aw_cv hK 7 (as := [q_i x2]) (trN_X7_needMachine h5) gX7_meet_X7_needMachine rfl rfl rfl (by decide) (na := 1) (by decide +kernel) rfl ⟨by decide, by decide⟩ (Nat.zero_le _) (Nat.le_of_ble_eq_true rfl) dX7_meet_7 ?_
      refine aw_aload_n hK 0 rfl dX7_meet_10 ?_
      refine aw_iload_n hK 1 rfl dX7_meet_11 ?_
      rcases calx_some hF with ⟨r11, m10, h9, hF⟩ | ⟨x_12, m10, h9, hF⟩
      · refine aw_cv hK 7 (as := [q_i x1]) (trN_X7_needPlain h9) gX7_meet_X7_needPlain rfl rfl rfl (by decide) (na := 1) (by decide +kernel) rfl ⟨by decide, by decide⟩ (Nat.zero_le _) (Nat.le_of_ble_eq_true rfl) dX7_meet_12 ?_
        refine aw_aload_n hK 0 rfl dX7_meet_15 ?_
        refine aw_iload_n hK 2 rfl dX7_meet_16 ?_
        rcases calx_some hF with ⟨r15, m14, h13, hF⟩ | ⟨x_16, m14, h13, hF⟩
        · refine aw_cv hK 7 (as := [q_i x2]) (trN_X7_needPlain h13) gX7_meet_X7_needPlain rfl rfl rfl (by decide) (na := 1) (by decide +kernel) rfl ⟨by decide, by decide⟩ (Nat.zero_le _) (Nat.le_of_ble_eq_true rfl) dX7_meet_17 ?_
          refine aw_iload_n hK 3 rfl dX7_meet_20 ?_
          refine aw_if_eq hK 28 rfl dX7_meet_21 (fun hc => ?_) (fun hc => ?_)
          · have hF := if_t hF hc
            refine aw_iconst hK (0) rfl dX7_meet_28 ?_
            refine aw_sub [0, 1, 2] (lv' := [(0, q_r 0), (1, q_i x1), (2, q_i x2)]) rfl ?_
            exact bkN_X7_meet_29 hK hR hF
          · have hF := if_f hF hc
            refine aw_iconst hK (1) rfl dX7_meet_24 ?_
            refine aw_goto hK 29 rfl dX7_meet_25 ?_
            refine aw_sub [0, 1, 2] (lv' := [(0, q_r 0), (1, q_i x1), (2, q_i x2)]) rfl ?_
            exact bkN_X7_meet_29 hK hR hF
        · cases hF
      · cases hF
    · cases hF
  · cases hF
def B_X7_needRule_28 (N : Nat) (m : Mem) : Option ((Int32 ⊕ Nat) × Mem) :=
  some (.inr 0, m)
set_option maxRecDepth 100000 in
set_option maxHeartbeats 4000000 in
theorem bk_X7_needRule_28 {N : Nat} {K : KT} {m' : Mem} {res : Int32 ⊕ Nat} (hK : KOK K cX7_needRule 4 RX7 wsX7_needRule 6 1 90) (hR : KX K none (xo false res) m' 1) {m : Mem} (hF : B_X7_needRule_28 N m = some (res, m')) : AW K 0 28 [] [] m := by
  unfold B_X7_needRule_28 at hF
  obtain ⟨rfl, rfl⟩ := so_inj hF
  exact aw_throwW (ik := 59) (ic := 63) (x := 0) hK hR (by decide) (List.mem_of_getElem? (i := 1) rfl) (List.mem_of_getElem? (i := 2) rfl) (List.mem_of_getElem? (i := 10) rfl) (by decide +kernel) (by decide +kernel) (by decide +kernel) (by decide +kernel) ⟨by decide, by decide⟩ (Nat.le_of_ble_eq_true rfl) (Nat.le_of_ble_eq_true rfl) dX7_needRule_28 dX7_needRule_31 dX7_needRule_32 dX7_needRule_35 dX7_needRule_38
def F_X7_needRule (N : Nat) (m : Mem) (x0 : Int32) (x1 : Int32) (x2 : Int32) (x3 : Int32) : Option ((Int32 ⊕ Nat) × Mem) :=
  if (P_X7_isLetter x0) = (0 : Int32) then (
    B_X7_needRule_28 N m
  ) else (
    if (P_X7_isLetterOrEmpty x1) = (0 : Int32) then (
      B_X7_needRule_28 N m
    ) else (
      if (P_X7_isLetterOrAny x2) = (0 : Int32) then (
        B_X7_needRule_28 N m
      ) else (
        if (P_X7_isLetterOrAny x3) = (0 : Int32) then (
          B_X7_needRule_28 N m
        ) else (
          some (.inl 0, m)
        )
      )
    )
  )
set_option maxRecDepth 100000 in
set_option maxHeartbeats 4000000 in
theorem trX_X7_needRule {N : Nat} {m m' : Mem} {res : Int32 ⊕ Nat} {x0 : Int32} {x1 : Int32} {x2 : Int32} {x3 : Int32} (hF : F_X7_needRule N m x0 x1 x2 x3 = some (res, m')) : TrX yX7_needRule wsX7_needRule 6 90 1 [q_i x0, q_i x1, q_i x2, q_i x3] m (xo false res) m' := by
  refine trX_of (bytes := cX7_needRule) (maxL := 4) (ret := none) (by decide) rfl (Nat.le_of_ble_eq_true rfl) (fun K hK hR => ?_)
  have hK : KOK K cX7_needRule 4 RX7 wsX7_needRule 6 1 90 := hK
  show AW K 0 0 [(0, q_i x0), (1, q_i x1), (2, q_i x2), (3, q_i x3)] [] m
  unfold F_X7_needRule at hF
  refine aw_iload_n hK 0 rfl dX7_needRule_0 ?_
  refine aw_cs hK (as := [q_i x0]) (trp_X7_isLetter x0 _) gX7_needRule_X7_isLetter rfl (na := 1) (by decide +kernel) rfl ⟨by decide, by decide⟩ (Nat.zero_le _) (Nat.le_of_ble_eq_true rfl) dX7_needRule_1 ?_
  refine aw_if_eq hK 28 rfl dX7_needRule_4 (fun hc => ?_) (fun hc => ?_)
  · have hF := if_t hF hc
    refine aw_sub [] (lv' := []) rfl ?_
    exact bk_X7_needRule_28 hK hR hF
  · have hF := if_f hF hc
    refine aw_iload_n hK 1 rfl dX7_needRule_7 ?_
    refine aw_cs hK (as := [q_i x1]) (trp_X7_isLetterOrEmpty x1 _) gX7_needRule_X7_isLetterOrEmpty rfl (na := 1) (by decide +kernel) rfl ⟨by decide, by decide⟩ (Nat.zero_le _) (Nat.le_of_ble_eq_true rfl) dX7_needRule_8 ?_
    refine aw_if_eq hK 28 rfl dX7_needRule_11 (fun hc => ?_) (fun hc => ?_)
    · have hF := if_t hF hc
      refine aw_sub [] (lv' := []) rfl ?_
      exact bk_X7_needRule_28 hK hR hF
    · have hF := if_f hF hc
      refine aw_iload_n hK 2 rfl dX7_needRule_14 ?_
      refine aw_cs hK (as := [q_i x2]) (trp_X7_isLetterOrAny x2 _) gX7_needRule_X7_isLetterOrAny rfl (na := 1) (by decide +kernel) rfl ⟨by decide, by decide⟩ (Nat.zero_le _) (Nat.le_of_ble_eq_true rfl) dX7_needRule_15 ?_
      refine aw_if_eq hK 28 rfl dX7_needRule_18 (fun hc => ?_) (fun hc => ?_)
      · have hF := if_t hF hc
        refine aw_sub [] (lv' := []) rfl ?_
        exact bk_X7_needRule_28 hK hR hF
      · have hF := if_f hF hc
        refine aw_iload_n hK 3 rfl dX7_needRule_21 ?_
        refine aw_cs hK (as := [q_i x3]) (trp_X7_isLetterOrAny x3 _) gX7_needRule_X7_isLetterOrAny rfl (na := 1) (by decide +kernel) rfl ⟨by decide, by decide⟩ (Nat.zero_le _) (Nat.le_of_ble_eq_true rfl) dX7_needRule_22 ?_
        refine aw_if_ne hK 39 rfl dX7_needRule_25 (fun hc => ?_) (fun hc => ?_)
        · have hF := if_f hF hc
          obtain ⟨rfl, rfl⟩ := so_inj hF
          exact aw_vretX hK hR (Nat.le_of_ble_eq_true rfl) dX7_needRule_39
        · have hF := if_t hF hc
          refine aw_sub [] (lv' := []) rfl ?_
          exact bk_X7_needRule_28 hK hR hF
set_option maxRecDepth 100000 in
set_option maxHeartbeats 4000000 in
theorem bkN_X7_needRule_28 {N : Nat} {K : KT} {m' : Mem} {r : Int32} (hK : KOK K cX7_needRule 4 RX7 wsX7_needRule 6 0 90) (hR : KRet K none none m') {m : Mem} (hF : B_X7_needRule_28 N m = some (.inl r, m')) : AW K 0 28 [] [] m := by
  unfold B_X7_needRule_28 at hF
  cases hF
set_option maxRecDepth 100000 in
set_option maxHeartbeats 4000000 in
theorem trN_X7_needRule {N : Nat} {m m' : Mem} {r : Int32} {x0 : Int32} {x1 : Int32} {x2 : Int32} {x3 : Int32} (hF : F_X7_needRule N m x0 x1 x2 x3 = some (.inl r, m')) : Tr yX7_needRule wsX7_needRule 6 90 [q_i x0, q_i x1, q_i x2, q_i x3] m none m' := by
  refine tr_of (bytes := cX7_needRule) (maxL := 4) (ret := none) (by decide) rfl (Nat.le_of_ble_eq_true rfl) (fun K hK hR => ?_)
  have hK : KOK K cX7_needRule 4 RX7 wsX7_needRule 6 0 90 := hK
  show AW K 0 0 [(0, q_i x0), (1, q_i x1), (2, q_i x2), (3, q_i x3)] [] m
  unfold F_X7_needRule at hF
  refine aw_iload_n hK 0 rfl dX7_needRule_0 ?_
  refine aw_cs hK (as := [q_i x0]) (trp_X7_isLetter x0 _) gX7_needRule_X7_isLetter rfl (na := 1) (by decide +kernel) rfl ⟨by decide, by decide⟩ (Nat.zero_le _) (Nat.le_of_ble_eq_true rfl) dX7_needRule_1 ?_
  refine aw_if_eq hK 28 rfl dX7_needRule_4 (fun hc => ?_) (fun hc => ?_)
  · have hF := if_t hF hc
    refine aw_sub [] (lv' := []) rfl ?_
    exact bkN_X7_needRule_28 hK hR hF
  · have hF := if_f hF hc
    refine aw_iload_n hK 1 rfl dX7_needRule_7 ?_
    refine aw_cs hK (as := [q_i x1]) (trp_X7_isLetterOrEmpty x1 _) gX7_needRule_X7_isLetterOrEmpty rfl (na := 1) (by decide +kernel) rfl ⟨by decide, by decide⟩ (Nat.zero_le _) (Nat.le_of_ble_eq_true rfl) dX7_needRule_8 ?_
    refine aw_if_eq hK 28 rfl dX7_needRule_11 (fun hc => ?_) (fun hc => ?_)
    · have hF := if_t hF hc
      refine aw_sub [] (lv' := []) rfl ?_
      exact bkN_X7_needRule_28 hK hR hF
    · have hF := if_f hF hc
      refine aw_iload_n hK 2 rfl dX7_needRule_14 ?_
      refine aw_cs hK (as := [q_i x2]) (trp_X7_isLetterOrAny x2 _) gX7_needRule_X7_isLetterOrAny rfl (na := 1) (by decide +kernel) rfl ⟨by decide, by decide⟩ (Nat.zero_le _) (Nat.le_of_ble_eq_true rfl) dX7_needRule_15 ?_
      refine aw_if_eq hK 28 rfl dX7_needRule_18 (fun hc => ?_) (fun hc => ?_)
      · have hF := if_t hF hc
        refine aw_sub [] (lv' := []) rfl ?_
        exact bkN_X7_needRule_28 hK hR hF
      · have hF := if_f hF hc
        refine aw_iload_n hK 3 rfl dX7_needRule_21 ?_
        refine aw_cs hK (as := [q_i x3]) (trp_X7_isLetterOrAny x3 _) gX7_needRule_X7_isLetterOrAny rfl (na := 1) (by decide +kernel) rfl ⟨by decide, by decide⟩ (Nat.zero_le _) (Nat.le_of_ble_eq_true rfl) dX7_needRule_22 ?_
        refine aw_if_ne hK 39 rfl dX7_needRule_25 (fun hc => ?_) (fun hc => ?_)
        · have hF := if_f hF hc
          obtain ⟨e1, rfl⟩ := so_inj hF
          exact aw_vret hK hR dX7_needRule_39
        · have hF := if_t hF hc
          refine aw_sub [] (lv' := []) rfl ?_
          exact bkN_X7_needRule_28 hK hR hF
