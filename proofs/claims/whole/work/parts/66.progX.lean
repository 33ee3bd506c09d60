def F_X7_type (N : Nat) (m : Mem) (x1 : Int32) : Option ((Int32 ⊕ Nat) × Mem) :=
  if (P_X7_isLetter x1) = (0 : Int32) then (
    some (.inr 0, m)
  ) else (
    if (m 0 1) < (8 : Int32) then (
      gd (inb (m 0 1) (alen 1)) <|
      bnd (mup m 1 (ix (m 0 1)) x1) fun m2 =>
      bnd (mup m2 0 1 ((m2 0 1) + (1 : Int32))) fun m3 =>
      some (.inl (m3 0 1), m3)
    ) else (
      some (.inr 1, m)
    )
  )
set_option maxRecDepth 100000 in
set_option maxHeartbeats 4000000 in
theorem trX_X7_type {N : Nat} {m m' : Mem} {res : Int32 ⊕ Nat} {x1 : Int32} (hF : F_X7_type N m x1 = some (res, m')) : TrX yX7_type wsX7_type 6 90 1 [q_r 0, q_i x1] m (xo true res) m' := by
  refine trX_of (bytes := cX7_type) (maxL := 2) (ret := (some .int)) (by decide) rfl (Nat.le_of_ble_eq_true rfl) (fun K hK hR => ?_)
  have hK : KOK K cX7_type 2 RX7 wsX7_type 6 1 90 := hK
  show AW K 0 0 [(0, q_r 0), (1, q_i x1)] [] m
  unfold F_X7_type at hF
  refine aw_iload_n hK 1 rfl dX7_type_0 ?_
  refine aw_cs hK (as := [q_i x1]) (trp_X7_isLetter x1 _) gX7_type_X7_isLetter rfl (na := 1) (by decide +kernel) rfl ⟨by decide, by decide⟩ (Nat.zero_le _) (Nat.le_of_ble_eq_true rfl) dX7_type_1 ?_
  refine aw_if_ne hK 17 rfl dX7_type_4 (fun hc => ?_) (fun hc => ?_)
  · have hF := if_f hF hc
    refine aw_aload_n hK 0 rfl dX7_type_17 ?_
    refine gf_7_1 hK rfl (List.mem_of_getElem? (i := 5) rfl) dX7_type_18 ?_
    refine aw_bipush hK (8) rfl dX7_type_21 ?_
    refine aw_icmp_lt hK 36 rfl dX7_type_23 (fun hc => ?_) (fun hc => ?_)
    · have hF := if_t hF hc
      refine aw_aload_n hK 0 rfl dX7_type_36 ?_
      refine gf_7_0 hK rfl (1) rfl (List.mem_of_getElem? (i := 6) rfl) dX7_type_37 ?_
      refine aw_aload_n hK 0 rfl dX7_type_40 ?_
      refine gf_7_1 hK rfl (List.mem_of_getElem? (i := 5) rfl) dX7_type_41 ?_
      refine aw_iload_n hK 1 rfl dX7_type_44 ?_
      obtain ⟨g1, hF⟩ := gd_some hF
      refine aw_iast hK rfl g1 dX7_type_45 ?_
      obtain ⟨m2, hm2, hF⟩ := bnd_some hF
      refine aw_mm hm2 ?_
      refine aw_aload_n hK 0 rfl dX7_type_46 ?_
      refine aw_dup hK rfl dX7_type_47 ?_
      refine gf_7_1 hK rfl (List.mem_of_getElem? (i := 5) rfl) dX7_type_48 ?_
      refine aw_iconst hK (1) rfl dX7_type_51 ?_
      refine aw_iadd hK dX7_type_52 ?_
      refine pf_7_1 hK rfl (List.mem_of_getElem? (i := 5) rfl) dX7_type_53 ?_
      obtain ⟨m3, hm3, hF⟩ := bnd_some hF
      refine aw_mm hm3 ?_
      refine aw_aload_n hK 0 rfl dX7_type_56 ?_
      refine gf_7_1 hK rfl (List.mem_of_getElem? (i := 5) rfl) dX7_type_57 ?_
      obtain ⟨rfl, rfl⟩ := so_inj hF
      exact aw_iretX hK hR rfl (Nat.le_of_ble_eq_true rfl) dX7_type_60
    · have hF := if_f hF hc
      obtain ⟨rfl, rfl⟩ := so_inj hF
      exact aw_throw (ik := 66) (ic := 70) (x := 1) hK hR (by decide) (List.mem_of_getElem? (i := 3) rfl) (List.mem_of_getElem? (i := 4) rfl) (List.mem_of_getElem? (i := 1) rfl) (by decide +kernel) (by decide +kernel) (by decide +kernel) (by decide +kernel) ⟨by decide, by decide⟩ (Nat.le_of_ble_eq_true rfl) (Nat.le_of_ble_eq_true rfl) dX7_type_26 dX7_type_29 dX7_type_30 dX7_type_32 dX7_type_35
  · have hF := if_t hF hc
    obtain ⟨rfl, rfl⟩ := so_inj hF
    exact aw_throw (ik := 59) (ic := 63) (x := 0) hK hR (by decide) (List.mem_of_getElem? (i := 1) rfl) (List.mem_of_getElem? (i := 2) rfl) (List.mem_of_getElem? (i := 0) rfl) (by decide +kernel) (by decide +kernel) (by decide +kernel) (by decide +kernel) ⟨by decide, by decide⟩ (Nat.le_of_ble_eq_true rfl) (Nat.le_of_ble_eq_true rfl) dX7_type_7 dX7_type_10 dX7_type_11 dX7_type_13 dX7_type_16
def F_X7_keepDraft (N : Nat) (m : Mem) : Option ((Int32 ⊕ Nat) × Mem) :=
  if (m 0 3) < (24 : Int32) then (
    gd (inb (m 0 3) (alen 2)) <|
    cal (F_X1_trimInto N m (200 + 4 * ix (m 0 3))) fun r4 m3 =>
    if r4 = (0 : Int32) then (
      some (.inr 1, m3)
    ) else (
      bnd (mup m3 0 3 ((m3 0 3) + (1 : Int32))) fun m5 =>
      some (.inl ((m5 0 3) - (1 : Int32)), m5)
    )
  ) else (
    some (.inr 1, m)
  )
set_option maxRecDepth 100000 in
set_option maxHeartbeats 4000000 in
theorem trX_X7_keepDraft {N : Nat} {m m' : Mem} {res : Int32 ⊕ Nat} (hF : F_X7_keepDraft N m = some (res, m')) : TrX yX7_keepDraft wsX7_keepDraft 6 94 1 [q_r 0] m (xo true res) m' := by
  refine trX_of (bytes := cX7_keepDraft) (maxL := 1) (ret := (some .int)) (by decide) rfl (Nat.le_of_ble_eq_true rfl) (fun K hK hR => ?_)
  have hK : KOK K cX7_keepDraft 1 RX7 wsX7_keepDraft 6 1 94 := hK
  show AW K 0 0 [(0, q_r 0)] [] m
  unfold F_X7_keepDraft at hF
  refine aw_aload_n hK 0 rfl dX7_keepDraft_0 ?_
  refine gf_7_3 hK rfl (List.mem_of_getElem? (i := 3) rfl) dX7_keepDraft_1 ?_
  refine aw_bipush hK (24) rfl dX7_keepDraft_4 ?_
  refine aw_icmp_lt hK 20 rfl dX7_keepDraft_6 (fun hc => ?_) (fun hc => ?_)
  · have hF := if_t hF hc
    refine aw_aload_n hK 0 rfl dX7_keepDraft_20 ?_
    refine gf_7_4 hK rfl (3) rfl (List.mem_of_getElem? (i := 4) rfl) dX7_keepDraft_21 ?_
    refine aw_aload_n hK 0 rfl dX7_keepDraft_24 ?_
    refine gf_7_2 hK rfl (2) rfl (List.mem_of_getElem? (i := 5) rfl) dX7_keepDraft_25 ?_
    refine aw_aload_n hK 0 rfl dX7_keepDraft_28 ?_
    refine gf_7_3 hK rfl (List.mem_of_getElem? (i := 3) rfl) dX7_keepDraft_29 ?_
    obtain ⟨g1, hF⟩ := gd_some hF
    refine aw_aald hK rfl g1 dX7_keepDraft_32 ?_
    obtain ⟨r4, m3, h2, hF⟩ := cal_some hF
    refine aw_cv hK 1 (as := [q_r (200 + 4 * ix (m 0 3))]) (tr_X1_trimInto (kMi g1) h2) gX7_keepDraft_X1_trimInto rfl rfl rfl (by decide) (na := 1) (by decide +kernel) rfl ⟨by decide, by decide⟩ (Nat.zero_le _) (Nat.le_of_ble_eq_true rfl) dX7_keepDraft_33 ?_
    refine aw_if_ne hK 50 rfl dX7_keepDraft_36 (fun hc => ?_) (fun hc => ?_)
    · have hF := if_f hF hc
      refine aw_aload_n hK 0 rfl dX7_keepDraft_50 ?_
      refine aw_dup hK rfl dX7_keepDraft_51 ?_
      refine gf_7_3 hK rfl (List.mem_of_getElem? (i := 3) rfl) dX7_keepDraft_52 ?_
      refine aw_iconst hK (1) rfl dX7_keepDraft_55 ?_
      refine aw_iadd hK dX7_keepDraft_56 ?_
      refine pf_7_3 hK rfl (List.mem_of_getElem? (i := 3) rfl) dX7_keepDraft_57 ?_
      obtain ⟨m5, hm5, hF⟩ := bnd_some hF
      refine aw_mm hm5 ?_
      refine aw_aload_n hK 0 rfl dX7_keepDraft_60 ?_
      refine gf_7_3 hK rfl (List.mem_of_getElem? (i := 3) rfl) dX7_keepDraft_61 ?_
      refine aw_iconst hK (1) rfl dX7_keepDraft_64 ?_
      refine aw_isub hK dX7_keepDraft_65 ?_
      obtain ⟨rfl, rfl⟩ := so_inj hF
      exact aw_iretX hK hR rfl (Nat.le_of_ble_eq_true rfl) dX7_keepDraft_66
    · have hF := if_t hF hc
      obtain ⟨rfl, rfl⟩ := so_inj hF
      exact aw_throwW (ik := 66) (ic := 70) (x := 1) hK hR (by decide) (List.mem_of_getElem? (i := 1) rfl) (List.mem_of_getElem? (i := 2) rfl) (List.mem_of_getElem? (i := 19) rfl) (by decide +kernel) (by decide +kernel) (by decide +kernel) (by decide +kernel) ⟨by decide, by decide⟩ (Nat.le_of_ble_eq_true rfl) (Nat.le_of_ble_eq_true rfl) dX7_keepDraft_39 dX7_keepDraft_42 dX7_keepDraft_43 dX7_keepDraft_46 dX7_keepDraft_49
  · have hF := if_f hF hc
    obtain ⟨rfl, rfl⟩ := so_inj hF
    exact aw_throwW (ik := 66) (ic := 70) (x := 1) hK hR (by decide) (List.mem_of_getElem? (i := 1) rfl) (List.mem_of_getElem? (i := 2) rfl) (List.mem_of_getElem? (i := 18) rfl) (by decide +kernel) (by decide +kernel) (by decide +kernel) (by decide +kernel) ⟨by decide, by decide⟩ (Nat.le_of_ble_eq_true rfl) (Nat.le_of_ble_eq_true rfl) dX7_keepDraft_9 dX7_keepDraft_12 dX7_keepDraft_13 dX7_keepDraft_16 dX7_keepDraft_19
def B_X7_pair_34 (N : Nat) (m : Mem) : Option ((Int32 ⊕ Nat) × Mem) :=
  some (.inr 0, m)
set_option maxRecDepth 100000 in
set_option maxHeartbeats 4000000 in
theorem bk_X7_pair_34 {N : Nat} {K : KT} {m' : Mem} {res : Int32 ⊕ Nat} (hK : KOK K cX7_pair 4 RX7 wsX7_pair 7 1 114) (hR : KX K (some .int) (xo true res) m' 1) {m : Mem} (hF : B_X7_pair_34 N m = some (res, m')) : AW K 0 34 [] [] m := by
  unfold B_X7_pair_34 at hF
  obtain ⟨rfl, rfl⟩ := so_inj hF
  exact aw_throw (ik := 59) (ic := 63) (x := 0) hK hR (by decide) (List.mem_of_getElem? (i := 1) rfl) (List.mem_of_getElem? (i := 2) rfl) (List.mem_of_getElem? (i := 2) rfl) (by decide +kernel) (by decide +kernel) (by decide +kernel) (by decide +kernel) ⟨by decide, by decide⟩ (Nat.le_of_ble_eq_true rfl) (Nat.le_of_ble_eq_true rfl) dX7_pair_34 dX7_pair_37 dX7_pair_38 dX7_pair_40 dX7_pair_43
def B_X7_pair_14 (N : Nat) (m : Mem) : Option ((Int32 ⊕ Nat) × Mem) :=
  some (.inr 0, m)
set_option maxRecDepth 100000 in
set_option maxHeartbeats 4000000 in
theorem bk_X7_pair_14 {N : Nat} {K : KT} {m' : Mem} {res : Int32 ⊕ Nat} (hK : KOK K cX7_pair 4 RX7 wsX7_pair 7 1 114) (hR : KX K (some .int) (xo true res) m' 1) {m : Mem} (hF : B_X7_pair_14 N m = some (res, m')) : AW K 0 14 [] [] m := by
  unfold B_X7_pair_14 at hF
  obtain ⟨rfl, rfl⟩ := so_inj hF
  exact aw_throw (ik := 59) (ic := 63) (x := 0) hK hR (by decide) (List.mem_of_getElem? (i := 1) rfl) (List.mem_of_getElem? (i := 2) rfl) (List.mem_of_getElem? (i := 0) rfl) (by decide +kernel) (by decide +kernel) (by decide +kernel) (by decide +kernel) ⟨by decide, by decide⟩ (Nat.le_of_ble_eq_true rfl) (Nat.le_of_ble_eq_true rfl) dX7_pair_14 dX7_pair_17 dX7_pair_18 dX7_pair_20 dX7_pair_23
def F_X7_pair (N : Nat) (m : Mem) (x1 : Int32) (x2 : Int32) (x3 : Int32) : Option ((Int32 ⊕ Nat) × Mem) :=
  if (P_X7_isLetterOrEmpty x1) = (0 : Int32) then (
    B_X7_pair_14 N m
  ) else (
    if (P_X7_isLetterOrEmpty x2) = (0 : Int32) then (
      B_X7_pair_14 N m
    ) else (
      if x3 < (0 : Int32) then (
        B_X7_pair_34 N m
      ) else (
        if x3 ≤ (100 : Int32) then (
          calv (F_X1_begin N m (2 : Int32) (0 : Int32)) fun m2 =>
          calv (F_X1_addArc N m2 (0 : Int32) x1 x2 x3 (1 : Int32)) fun m4 =>
          calv (F_X1_addEnd N m4 (1 : Int32)) fun m6 =>
          calx (F_X7_keepDraft N m6) fun r9 m8 =>
          some (.inl r9, m8)
        ) else (
          B_X7_pair_34 N m
        )
      )
    )
  )
set_option maxRecDepth 100000 in
set_option maxHeartbeats 4000000 in
theorem trX_X7_pair {N : Nat} {m m' : Mem} {res : Int32 ⊕ Nat} {x1 : Int32} {x2 : Int32} {x3 : Int32} (hF : F_X7_pair N m x1 x2 x3 = some (res, m')) : TrX yX7_pair wsX7_pair 7 114 1 [q_r 0, q_i x1, q_i x2, q_i x3] m (xo true res) m' := by
  refine trX_of (bytes := cX7_pair) (maxL := 4) (ret := (some .int)) (by decide) rfl (Nat.le_of_ble_eq_true rfl) (fun K hK hR => ?_)
  have hK : KOK K cX7_pair 4 RX7 wsX7_pair 7 1 114 := hK
  show AW K 0 0 [(0, q_r 0), (1, q_i x1), (2, q_i x2), (3, q_i x3)] [] m
  unfold F_X7_pair at hF
  refine aw_iload_n hK 1 rfl dX7_pair_0 ?_
  refine aw_cs hK (as := [q_i x1]) (trp_X7_isLetterOrEmpty x1 _) gX7_pair_X7_isLetterOrEmpty rfl (na := 1) (by decide +kernel) rfl ⟨by decide, by decide⟩ (Nat.zero_le _) (Nat.le_of_ble_eq_true rfl) dX7_pair_1 ?_
  refine aw_if_eq hK 14 rfl dX7_pair_4 (fun hc => ?_) (fun hc => ?_)
  · have hF := if_t hF hc
    refine aw_sub [] (lv' := []) rfl ?_
    exact bk_X7_pair_14 hK hR hF
  · have hF := if_f hF hc
    refine aw_iload_n hK 2 rfl dX7_pair_7 ?_
    refine aw_cs hK (as := [q_i x2]) (trp_X7_isLetterOrEmpty x2 _) gX7_pair_X7_isLetterOrEmpty rfl (na := 1) (by decide +kernel) rfl ⟨by decide, by decide⟩ (Nat.zero_le _) (Nat.le_of_ble_eq_true rfl) dX7_pair_8 ?_
    refine aw_if_ne hK 24 rfl dX7_pair_11 (fun hc => ?_) (fun hc => ?_)
    · have hF := if_f hF hc
      refine aw_iload_n hK 3 rfl dX7_pair_24 ?_
      refine aw_if_lt hK 34 rfl dX7_pair_25 (fun hc => ?_) (fun hc => ?_)
      · have hF := if_t hF hc
        refine aw_sub [] (lv' := []) rfl ?_
        exact bk_X7_pair_34 hK hR hF
      · have hF := if_f hF hc
        refine aw_iload_n hK 3 rfl dX7_pair_28 ?_
        refine aw_bipush hK (100) rfl dX7_pair_29 ?_
        refine aw_icmp_le hK 44 rfl dX7_pair_31 (fun hc => ?_) (fun hc => ?_)
        · have hF := if_t hF hc
          refine aw_aload_n hK 0 rfl dX7_pair_44 ?_
          refine gf_7_4 hK rfl (3) rfl (List.mem_of_getElem? (i := 3) rfl) dX7_pair_45 ?_
          refine aw_iconst hK (2) rfl dX7_pair_48 ?_
          refine aw_iconst hK (0) rfl dX7_pair_49 ?_
          obtain ⟨m2, h1, hF⟩ := calv_some hF
          refine aw_cv hK 1 (as := [q_i (2 : Int32), q_i (0 : Int32)]) (tr_X1_begin h1) gX7_pair_X1_begin rfl rfl rfl (by decide) (na := 2) (by decide +kernel) rfl ⟨by decide, by decide⟩ (Nat.zero_le _) (Nat.le_of_ble_eq_true rfl) dX7_pair_50 ?_
          refine aw_aload_n hK 0 rfl dX7_pair_53 ?_
          refine gf_7_4 hK rfl (3) rfl (List.mem_of_getElem? (i := 3) rfl) dX7_pair_54 ?_
          refine aw_iconst hK (0) rfl dX7_pair_57 ?_
          refine aw_iload_n hK 1 rfl dX7_pair_58 ?_
          refine aw_iload_n hK 2 rfl dX7_pair_59 ?_
          refine aw_iload_n hK 3 rfl dX7_pair_60 ?_
          refine aw_iconst hK (1) rfl dX7_pair_61 ?_
          obtain ⟨m4, h3, hF⟩ := calv_some hF
          refine aw_cv hK 1 (as := [q_i (0 : Int32), q_i x1, q_i x2, q_i x3, q_i (1 : Int32)]) (tr_X1_addArc h3) gX7_pair_X1_addArc rfl rfl rfl (by decide) (na := 5) (by decide +kernel) rfl ⟨by decide, by decide⟩ (Nat.zero_le _) (Nat.le_of_ble_eq_true rfl) dX7_pair_62 ?_
          refine aw_aload_n hK 0 rfl dX7_pair_65 ?_
          refine gf_7_4 hK rfl (3) rfl (List.mem_of_getElem? (i := 3) rfl) dX7_pair_66 ?_
          refine aw_iconst hK (1) rfl dX7_pair_69 ?_
          obtain ⟨m6, h5, hF⟩ := calv_some hF
          refine aw_cv hK 1 (as := [q_i (1 : Int32)]) (tr_X1_addEnd h5) gX7_pair_X1_addEnd rfl rfl rfl (by decide) (na := 1) (by decide +kernel) rfl ⟨by decide, by decide⟩ (Nat.zero_le _) (Nat.le_of_ble_eq_true rfl) dX7_pair_70 ?_
          refine aw_aload_n hK 0 rfl dX7_pair_73 ?_
          rcases calx_some hF with ⟨r9, m8, h7, hF⟩ | ⟨x_10, m8, h7, hF⟩
          · refine aw_cvXr hK (kxb hR) 7 (as := []) (trX_X7_keepDraft h7) gX7_pair_X7_keepDraft rfl rfl rfl (by decide) (na := 0) (by decide +kernel) rfl ⟨by decide, by decide⟩ (Nat.le_of_ble_eq_true rfl) (Nat.le_of_ble_eq_true rfl) dX7_pair_74 ?_
            obtain ⟨rfl, rfl⟩ := so_inj hF
            exact aw_iretX hK hR rfl (Nat.le_of_ble_eq_true rfl) dX7_pair_77
          · obtain ⟨rfl, rfl⟩ := Prod.mk.inj hF
            exact aw_cvXx hK hR 7 (as := []) (trX_X7_keepDraft h7) gX7_pair_X7_keepDraft rfl rfl rfl (by decide) (na := 0) (by decide +kernel) rfl ⟨by decide, by decide⟩ (Nat.le_of_ble_eq_true rfl) (Nat.le_of_ble_eq_true rfl) dX7_pair_74
        · have hF := if_f hF hc
          refine aw_sub [] (lv' := []) rfl ?_
          exact bk_X7_pair_34 hK hR hF
    · have hF := if_t hF hc
      refine aw_sub [] (lv' := []) rfl ?_
      exact bk_X7_pair_14 hK hR hF
def S_X7_word_16 (N : Nat) (rec_16 : Mem → Int32 → Option ((Int32 ⊕ Nat) × Mem)) (m : Mem) (x1 : Int32) : Option ((Int32 ⊕ Nat) × Mem) :=
  if (m 0 1) ≤ x1 then (
    calv (F_X1_addEnd N m (m 0 1)) fun m4 =>
    calx (F_X7_keepDraft N m4) fun r7 m6 =>
    some (.inl r7, m6)
  ) else (
    gd (inb x1 (alen 1)) <|
    gd (inb x1 (alen 1)) <|
    calv (F_X1_addArc N m x1 (m 1 (ix x1)) (m 1 (ix x1)) (0 : Int32) (x1 + (1 : Int32))) fun m12 =>
    bnd (x1 + (1 : Int32)) fun y13 =>
    rec_16 m12 y13
  )
def L_X7_word_16 (N : Nat) : Nat → Mem → Int32 → Option ((Int32 ⊕ Nat) × Mem)
  | 0 => fun _ _ => none
  | f + 1 => S_X7_word_16 N (L_X7_word_16 N f)
set_option maxRecDepth 100000 in
set_option maxHeartbeats 4000000 in
theorem lp_X7_word_16 {N : Nat} {K : KT} {m' : Mem} {res : Int32 ⊕ Nat} (hK : KOK K cX7_word 2 RX7 wsX7_word 7 1 114) (hR : KX K (some .int) (xo true res) m' 1) : ∀ (f : Nat) {m : Mem} {x1 : Int32}, L_X7_word_16 N f m x1 = some (res, m') → AW K 0 16 [(0, q_r 0), (1, q_i x1)] [] m := by
  intro f
  induction f with
  | zero => intro m x1 hF; cases hF
  | succ f hrec_16 =>
    intro m x1 hF
    have hF : S_X7_word_16 N (L_X7_word_16 N f) m x1 = some (res, m') := hF
    unfold S_X7_word_16 at hF
    refine aw_iload_n hK 1 rfl dX7_word_16 ?_
    refine aw_aload_n hK 0 rfl dX7_word_17 ?_
    refine gf_7_1 hK rfl (List.mem_of_getElem? (i := 2) rfl) dX7_word_18 ?_
    refine aw_icmp_ge hK 54 rfl dX7_word_21 (fun hc => ?_) (fun hc => ?_)
    · have hF := if_t hF hc
      refine aw_aload_n hK 0 rfl dX7_word_54 ?_
      refine gf_7_4 hK rfl (3) rfl (List.mem_of_getElem? (i := 1) rfl) dX7_word_55 ?_
      refine aw_aload_n hK 0 rfl dX7_word_58 ?_
      refine gf_7_1 hK rfl (List.mem_of_getElem? (i := 2) rfl) dX7_word_59 ?_
      obtain ⟨m4, h3, hF⟩ := calv_some hF
      refine aw_cv hK 1 (as := [q_i (m 0 1)]) (tr_X1_addEnd h3) gX7_word_X1_addEnd rfl rfl rfl (by decide) (na := 1) (by decide +kernel) rfl ⟨by decide, by decide⟩ (Nat.zero_le _) (Nat.le_of_ble_eq_true rfl) dX7_word_62 ?_
      refine aw_aload_n hK 0 rfl dX7_word_65 ?_
      rcases calx_some hF with ⟨r7, m6, h5, hF⟩ | ⟨x_8, m6, h5, hF⟩
      · refine aw_cvXr hK (kxb hR) 7 (as := []) (trX_X7_keepDraft h5) gX7_word_X7_keepDraft rfl rfl rfl (by decide) (na := 0) (by decide +kernel) rfl ⟨by decide, by decide⟩ (Nat.le_of_ble_eq_true rfl) (Nat.le_of_ble_eq_true rfl) dX7_word_66 ?_
        obtain ⟨rfl, rfl⟩ := so_inj hF
        exact aw_iretX hK hR rfl (Nat.le_of_ble_eq_true rfl) dX7_word_69
      · obtain ⟨rfl, rfl⟩ := Prod.mk.inj hF
        exact aw_cvXx hK hR 7 (as := []) (trX_X7_keepDraft h5) gX7_word_X7_keepDraft rfl rfl rfl (by decide) (na := 0) (by decide +kernel) rfl ⟨by decide, by decide⟩ (Nat.le_of_ble_eq_true rfl) (Nat.le_of_ble_eq_true rfl) dX7_word_66
    · have hF := if_f hF hc
      refine aw_aload_n hK 0 rfl dX7_word_24 ?_
      refine gf_7_4 hK rfl (3) rfl (List.mem_of_getElem? (i := 1) rfl) dX7_word_25 ?_
      refine aw_iload_n hK 1 rfl dX7_word_28 ?_
      refine aw_aload_n hK 0 rfl dX7_word_29 ?_
      refine gf_7_0 hK rfl (1) rfl (List.mem_of_getElem? (i := 3) rfl) dX7_word_30 ?_
      refine aw_iload_n hK 1 rfl dX7_word_33 ?_
      obtain ⟨g9, hF⟩ := gd_some hF
      refine aw_iald hK rfl g9 dX7_word_34 ?_
      refine aw_aload_n hK 0 rfl dX7_word_35 ?_
      refine gf_7_0 hK rfl (1) rfl (List.mem_of_getElem? (i := 3) rfl) dX7_word_36 ?_
      refine aw_iload_n hK 1 rfl dX7_word_39 ?_
      obtain ⟨g10, hF⟩ := gd_some hF
      refine aw_iald hK rfl g10 dX7_word_40 ?_
      refine aw_iconst hK (0) rfl dX7_word_41 ?_
      refine aw_iload_n hK 1 rfl dX7_word_42 ?_
      refine aw_iconst hK (1) rfl dX7_word_43 ?_
      refine aw_iadd hK dX7_word_44 ?_
      obtain ⟨m12, h11, hF⟩ := calv_some hF
      refine aw_cv hK 1 (as := [q_i x1, q_i (m 1 (ix x1)), q_i (m 1 (ix x1)), q_i (0 : Int32), q_i (x1 + (1 : Int32))]) (tr_X1_addArc h11) gX7_word_X1_addArc rfl rfl rfl (by decide) (na := 5) (by decide +kernel) rfl ⟨by decide, by decide⟩ (Nat.zero_le _) (Nat.le_of_ble_eq_true rfl) dX7_word_45 ?_
      obtain ⟨y13, hy13, hF⟩ := bnd_some hF
      refine aw_iinc hK (cz := 1) 1 [(1, q_i y13), (0, q_r 0)] (by decide) rfl rfl hy13 rfl dX7_word_48 ?_
      refine aw_goto hK 16 rfl dX7_word_51 ?_
      refine aw_sub [1, 0] (lv' := [(0, q_r 0), (1, q_i y13)]) rfl ?_
      exact hrec_16 hF
def F_X7_word (N : Nat) (m : Mem) : Option ((Int32 ⊕ Nat) × Mem) :=
  calv (F_X1_begin N m ((m 0 1) + (1 : Int32)) (0 : Int32)) fun m2 =>
  L_X7_word_16 N N m2 (0 : Int32)
set_option maxRecDepth 100000 in
set_option maxHeartbeats 4000000 in
theorem trX_X7_word {N : Nat} {m m' : Mem} {res : Int32 ⊕ Nat} (hF : F_X7_word N m = some (res, m')) : TrX yX7_word wsX7_word 7 114 1 [q_r 0] m (xo true res) m' := by
  refine trX_of (bytes := cX7_word) (maxL := 2) (ret := (some .int)) (by decide) rfl (Nat.le_of_ble_eq_true rfl) (fun K hK hR => ?_)
  have hK : KOK K cX7_word 2 RX7 wsX7_word 7 1 114 := hK
  show AW K 0 0 [(0, q_r 0)] [] m
  unfold F_X7_word at hF
  refine aw_aload_n hK 0 rfl dX7_word_0 ?_
  refine gf_7_4 hK rfl (3) rfl (List.mem_of_getElem? (i := 1) rfl) dX7_word_1 ?_
  refine aw_aload_n hK 0 rfl dX7_word_4 ?_
  refine gf_7_1 hK rfl (List.mem_of_getElem? (i := 2) rfl) dX7_word_5 ?_
  refine aw_iconst hK (1) rfl dX7_word_8 ?_
  refine aw_iadd hK dX7_word_9 ?_
  refine aw_iconst hK (0) rfl dX7_word_10 ?_
  obtain ⟨m2, h1, hF⟩ := calv_some hF
  refine aw_cv hK 1 (as := [q_i ((m 0 1) + (1 : Int32)), q_i (0 : Int32)]) (tr_X1_begin h1) gX7_word_X1_begin rfl rfl rfl (by decide) (na := 2) (by decide +kernel) rfl ⟨by decide, by decide⟩ (Nat.zero_le _) (Nat.le_of_ble_eq_true rfl) dX7_word_11 ?_
  refine aw_iconst hK (0) rfl dX7_word_14 ?_
  refine aw_istore_n hK [(1, q_i (0 : Int32)), (0, q_r 0)] (by decide) rfl dX7_word_15 ?_
  refine aw_sub [1, 0] (lv' := [(0, q_r 0), (1, q_i (0 : Int32))]) rfl ?_
  exact lp_X7_word_16 hK hR _ hF
def S_X7_any_11 (N : Nat) (rec_11 : Mem → Int32 → Option ((Int32 ⊕ Nat) × Mem)) (m : Mem) (x1 : Int32) : Option ((Int32 ⊕ Nat) × Mem) :=
  if (8 : Int32) ≤ x1 then (
    calv (F_X1_addEnd N m (1 : Int32)) fun m4 =>
    calx (F_X7_keepDraft N m4) fun r7 m6 =>
    some (.inl r7, m6)
  ) else (
    calv (F_X1_addArc N m (0 : Int32) x1 x1 (0 : Int32) (1 : Int32)) fun m10 =>
    bnd (x1 + (1 : Int32)) fun y11 =>
    rec_11 m10 y11
  )
def L_X7_any_11 (N : Nat) : Nat → Mem → Int32 → Option ((Int32 ⊕ Nat) × Mem)
  | 0 => fun _ _ => none
  | f + 1 => S_X7_any_11 N (L_X7_any_11 N f)
set_option maxRecDepth 100000 in
set_option maxHeartbeats 4000000 in
theorem lp_X7_any_11 {N : Nat} {K : KT} {m' : Mem} {res : Int32 ⊕ Nat} (hK : KOK K cX7_any 2 RX7 wsX7_any 7 1 114) (hR : KX K (some .int) (xo true res) m' 1) : ∀ (f : Nat) {m : Mem} {x1 : Int32}, L_X7_any_11 N f m x1 = some (res, m') → AW K 0 11 [(0, q_r 0), (1, q_i x1)] [] m := by
  intro f
  induction f with
  | zero => intro m x1 hF; cases hF
  | succ f hrec_11 =>
    intro m x1 hF
    have hF : S_X7_any_11 N (L_X7_any_11 N f) m x1 = some (res, m') := hF
    unfold S_X7_any_11 at hF
    refine aw_iload_n hK 1 rfl dX7_any_11 ?_
    refine aw_bipush hK (8) rfl dX7_any_12 ?_
    refine aw_icmp_ge hK 35 rfl dX7_any_14 (fun hc => ?_) (fun hc => ?_)
    · have hF := if_t hF hc
      refine aw_aload_n hK 0 rfl dX7_any_35 ?_
      refine gf_7_4 hK rfl (3) rfl (List.mem_of_getElem? (i := 1) rfl) dX7_any_36 ?_
      refine aw_iconst hK (1) rfl dX7_any_39 ?_
      obtain ⟨m4, h3, hF⟩ := calv_some hF
      refine aw_cv hK 1 (as := [q_i (1 : Int32)]) (tr_X1_addEnd h3) gX7_any_X1_addEnd rfl rfl rfl (by decide) (na := 1) (by decide +kernel) rfl ⟨by decide, by decide⟩ (Nat.zero_le _) (Nat.le_of_ble_eq_true rfl) dX7_any_40 ?_
      refine aw_aload_n hK 0 rfl dX7_any_43 ?_
      rcases calx_some hF with ⟨r7, m6, h5, hF⟩ | ⟨x_8, m6, h5, hF⟩
      · refine aw_cvXr hK (kxb hR) 7 (as := []) (trX_X7_keepDraft h5) gX7_any_X7_keepDraft rfl rfl rfl (by decide) (na := 0) (by decide +kernel) rfl ⟨by decide, by decide⟩ (Nat.le_of_ble_eq_true rfl) (Nat.le_of_ble_eq_true rfl) dX7_any_44 ?_
        obtain ⟨rfl, rfl⟩ := so_inj hF
        exact aw_iretX hK hR rfl (Nat.le_of_ble_eq_true rfl) dX7_any_47
      · obtain ⟨rfl, rfl⟩ := Prod.mk.inj hF
        exact aw_cvXx hK hR 7 (as := []) (trX_X7_keepDraft h5) gX7_any_X7_keepDraft rfl rfl rfl (by decide) (na := 0) (by decide +kernel) rfl ⟨by decide, by decide⟩ (Nat.le_of_ble_eq_true rfl) (Nat.le_of_ble_eq_true rfl) dX7_any_44
    · have hF := if_f hF hc
      refine aw_aload_n hK 0 rfl dX7_any_17 ?_
      refine gf_7_4 hK rfl (3) rfl (List.mem_of_getElem? (i := 1) rfl) dX7_any_18 ?_
      refine aw_iconst hK (0) rfl dX7_any_21 ?_
      refine aw_iload_n hK 1 rfl dX7_any_22 ?_
      refine aw_iload_n hK 1 rfl dX7_any_23 ?_
      refine aw_iconst hK (0) rfl dX7_any_24 ?_
      refine aw_iconst hK (1) rfl dX7_any_25 ?_
      obtain ⟨m10, h9, hF⟩ := calv_some hF
      refine aw_cv hK 1 (as := [q_i (0 : Int32), q_i x1, q_i x1, q_i (0 : Int32), q_i (1 : Int32)]) (tr_X1_addArc h9) gX7_any_X1_addArc rfl rfl rfl (by decide) (na := 5) (by decide +kernel) rfl ⟨by decide, by decide⟩ (Nat.zero_le _) (Nat.le_of_ble_eq_true rfl) dX7_any_26 ?_
      obtain ⟨y11, hy11, hF⟩ := bnd_some hF
      refine aw_iinc hK (cz := 1) 1 [(1, q_i y11), (0, q_r 0)] (by decide) rfl rfl hy11 rfl dX7_any_29 ?_
      refine aw_goto hK 11 rfl dX7_any_32 ?_
      refine aw_sub [1, 0] (lv' := [(0, q_r 0), (1, q_i y11)]) rfl ?_
      exact hrec_11 hF
def F_X7_any (N : Nat) (m : Mem) : Option ((Int32 ⊕ Nat) × Mem) :=
  calv (F_X1_begin N m (2 : Int32) (0 : Int32)) fun m2 =>
  L_X7_any_11 N N m2 (0 : Int32)
set_option maxRecDepth 100000 in
set_option maxHeartbeats 4000000 in
theorem trX_X7_any {N : Nat} {m m' : Mem} {res : Int32 ⊕ Nat} (hF : F_X7_any N m = some (res, m')) : TrX yX7_any wsX7_any 7 114 1 [q_r 0] m (xo true res) m' := by
  refine trX_of (bytes := cX7_any) (maxL := 2) (ret := (some .int)) (by decide) rfl (Nat.le_of_ble_eq_true rfl) (fun K hK hR => ?_)
  have hK : KOK K cX7_any 2 RX7 wsX7_any 7 1 114 := hK
  show AW K 0 0 [(0, q_r 0)] [] m
  unfold F_X7_any at hF
  refine aw_aload_n hK 0 rfl dX7_any_0 ?_
  refine gf_7_4 hK rfl (3) rfl (List.mem_of_getElem? (i := 1) rfl) dX7_any_1 ?_
  refine aw_iconst hK (2) rfl dX7_any_4 ?_
  refine aw_iconst hK (0) rfl dX7_any_5 ?_
  obtain ⟨m2, h1, hF⟩ := calv_some hF
  refine aw_cv hK 1 (as := [q_i (2 : Int32), q_i (0 : Int32)]) (tr_X1_begin h1) gX7_any_X1_begin rfl rfl rfl (by decide) (na := 2) (by decide +kernel) rfl ⟨by decide, by decide⟩ (Nat.zero_le _) (Nat.le_of_ble_eq_true rfl) dX7_any_6 ?_
  refine aw_iconst hK (0) rfl dX7_any_9 ?_
  refine aw_istore_n hK [(1, q_i (0 : Int32)), (0, q_r 0)] (by decide) rfl dX7_any_10 ?_
  refine aw_sub [1, 0] (lv' := [(0, q_r 0), (1, q_i (0 : Int32))]) rfl ?_
  exact lp_X7_any_11 hK hR _ hF
def B_X7_needMachine_12 (N : Nat) (m : Mem) : Option ((Int32 ⊕ Nat) × Mem) :=
  some (.inr 2, m)
set_option maxRecDepth 100000 in
set_option maxHeartbeats 4000000 in
theorem bk_X7_needMachine_12 {N : Nat} {K : KT} {m' : Mem} {res : Int32 ⊕ Nat} (hK : KOK K cX7_needMachine 2 RX7 wsX7_needMachine 6 1 90) (hR : KX K none (xo false res) m' 1) {m : Mem} (hF : B_X7_needMachine_12 N m = some (res, m')) : AW K 0 12 [] [] m := by
  unfold B_X7_needMachine_12 at hF
  obtain ⟨rfl, rfl⟩ := so_inj hF
  exact aw_throwW (ik := 201) (ic := 205) (x := 2) hK hR (by decide) (List.mem_of_getElem? (i := 1) rfl) (List.mem_of_getElem? (i := 2) rfl) (List.mem_of_getElem? (i := 16) rfl) (by decide +kernel) (by decide +kernel) (by decide +kernel) (by decide +kernel) ⟨by decide, by decide⟩ (Nat.le_of_ble_eq_true rfl) (Nat.le_of_ble_eq_true rfl) dX7_needMachine_12 dX7_needMachine_15 dX7_needMachine_16 dX7_needMachine_19 dX7_needMachine_22
def F_X7_needMachine (N : Nat) (m : Mem) (x1 : Int32) : Option ((Int32 ⊕ Nat) × Mem) :=
  if x1 < (0 : Int32) then (
    B_X7_needMachine_12 N m
  ) else (
    if x1 < (m 0 3) then (
      some (.inl 0, m)
    ) else (
      B_X7_needMachine_12 N m
    )
  )
set_option maxRecDepth 100000 in
set_option maxHeartbeats 4000000 in
theorem trX_X7_needMachine {N : Nat} {m m' : Mem} {res : Int32 ⊕ Nat} {x1 : Int32} (hF : F_X7_needMachine N m x1 = some (res, m')) : TrX yX7_needMachine wsX7_needMachine 6 90 1 [q_r 0, q_i x1] m (xo false res) m' := by
  refine trX_of (bytes := cX7_needMachine) (maxL := 2) (ret := none) (by decide) rfl (Nat.le_of_ble_eq_true rfl) (fun K hK hR => ?_)
  have hK : KOK K cX7_needMachine 2 RX7 wsX7_needMachine 6 1 90 := hK
  show AW K 0 0 [(0, q_r 0), (1, q_i x1)] [] m
  unfold F_X7_needMachine at hF
  refine aw_iload_n hK 1 rfl dX7_needMachine_0 ?_
  refine aw_if_lt hK 12 rfl dX7_needMachine_1 (fun hc => ?_) (fun hc => ?_)
  · have hF := if_t hF hc
    refine aw_sub [] (lv' := []) rfl ?_
    exact bk_X7_needMachine_12 hK hR hF
  · have hF := if_f hF hc
    refine aw_iload_n hK 1 rfl dX7_needMachine_4 ?_
    refine aw_aload_n hK 0 rfl dX7_needMachine_5 ?_
    refine gf_7_3 hK rfl (List.mem_of_getElem? (i := 3) rfl) dX7_needMachine_6 ?_
    refine aw_icmp_lt hK 23 rfl dX7_needMachine_9 (fun hc => ?_) (fun hc => ?_)
    · have hF := if_t hF hc
      obtain ⟨rfl, rfl⟩ := so_inj hF
      exact aw_vretX hK hR (Nat.le_of_ble_eq_true rfl) dX7_needMachine_23
    · have hF := if_f hF hc
      refine aw_sub [] (lv' := []) rfl ?_
      exact bk_X7_needMachine_12 hK hR hF
def F_X7_join (N : Nat) (m : Mem) (x1 : Int32) (x2 : Int32) : Option ((Int32 ⊕ Nat) × Mem) :=
  calx (F_X7_needMachine N m x1) fun r3 m2 =>
  calx (F_X7_needMachine N m2 x2) fun r7 m6 =>
  gd (inb x1 (alen 2)) <|
  bnd (200 + 4 * ix x1) fun q10 =>
  gd (inb x2 (alen 2)) <|
  bnd (200 + 4 * ix x2) fun q12 =>
  calv (F_X1_begin N m6 ((m6 q10 1) + (m6 q12 1)) (0 : Int32)) fun m14 =>
  calv (F_X1_addArcsOf N m14 q10 (0 : Int32)) fun m16 =>
  calv (F_X1_addArcsOf N m16 q12 (m16 q10 1)) fun m18 =>
  calv (F_X1_leadFromEndsOf N m18 q10 (0 : Int32) (m18 q10 1)) fun m20 =>
  calv (F_X1_addEndsOf N m20 q12 (m20 q10 1)) fun m22 =>
  calx (F_X7_keepDraft N m22) fun r25 m24 =>
  some (.inl r25, m24)
set_option maxRecDepth 100000 in
set_option maxHeartbeats 4000000 in
theorem trX_X7_join {N : Nat} {m m' : Mem} {res : Int32 ⊕ Nat} {x1 : Int32} {x2 : Int32} (hF : F_X7_join N m x1 x2 = some (res, m')) : TrX yX7_join wsX7_join 7 114 3 [q_r 0, q_i x1, q_i x2] m (xo true res) m' := by
  refine trX_of (bytes := cX7_join) (maxL := 5) (ret := (some .int)) (by decide) rfl (Nat.le_of_ble_eq_true rfl) (fun K hK hR => ?_)
  have hK : KOK K cX7_join 5 RX7 wsX7_join 7 3 114 := hK
  show AW K 0 0 [(0, q_r 0), (1, q_i x1), (2, q_i x2)] [] m
  unfold F_X7_join at hF
  refine aw_aload_n hK 0 rfl dX7_join_0 ?_
  refine aw_iload_n hK 1 rfl dX7_join_1 ?_
  rcases calx_some hF with ⟨r3, m2, h1, hF⟩ | ⟨x_4, m2, h1, hF⟩
  · refine aw_cvXr hK (kxb hR) 7 (as := [q_i x1]) (trX_X7_needMachine h1) gX7_join_X7_needMachine rfl rfl rfl (by decide) (na := 1) (by decide +kernel) rfl ⟨by decide, by decide⟩ (Nat.le_of_ble_eq_true rfl) (Nat.le_of_ble_eq_true rfl) dX7_join_2 ?_
    refine aw_aload_n hK 0 rfl dX7_join_5 ?_
    refine aw_iload_n hK 2 rfl dX7_join_6 ?_
    rcases calx_some hF with ⟨r7, m6, h5, hF⟩ | ⟨x_8, m6, h5, hF⟩
    · refine aw_cvXr hK (kxb hR) 7 (as := [q_i x2]) (trX_X7_needMachine h5) gX7_join_X7_needMachine rfl rfl rfl (by decide) (na := 1) (by decide +kernel) rfl ⟨by decide, by decide⟩ (Nat.le_of_ble_eq_true rfl) (Nat.le_of_ble_eq_true rfl) dX7_join_7 ?_
      refine aw_aload_n hK 0 rfl dX7_join_10 ?_
      refine gf_7_2 hK rfl (2) rfl (List.mem_of_getElem? (i := 1) rfl) dX7_join_11 ?_
      refine aw_iload_n hK 1 rfl dX7_join_14 ?_
      obtain ⟨g9, hF⟩ := gd_some hF
      refine aw_aald hK rfl g9 dX7_join_15 ?_
      obtain ⟨q10, hq10, hF⟩ := bnd_some hF
      refine aw_nr hq10 ?_
      refine aw_astore_n hK [(3, q_r q10), (0, q_r 0), (1, q_i x1), (2, q_i x2)] (by decide) rfl dX7_join_16 ?_
      refine aw_aload_n hK 1 rfl dX7_join_17 ?_
      refine gf_7_2 hK rfl (2) rfl (List.mem_of_getElem? (i := 1) rfl) dX7_join_18 ?_
      refine aw_iload_n hK 3 rfl dX7_join_21 ?_
      obtain ⟨g11, hF⟩ := gd_some hF
      refine aw_aald hK rfl g11 dX7_join_22 ?_
      obtain ⟨q12, hq12, hF⟩ := bnd_some hF
      refine aw_nr hq12 ?_
      refine aw_astore hK [(4, q_r q12), (3, q_r q10), (0, q_r 0), (1, q_i x1), (2, q_i x2)] (by decide) rfl dX7_join_23 ?_
      refine aw_aload_n hK 2 rfl dX7_join_25 ?_
      refine gf_7_4 hK rfl (3) rfl (List.mem_of_getElem? (i := 2) rfl) dX7_join_26 ?_
      refine aw_aload_n hK 1 rfl dX7_join_29 ?_
      refine gf_3_1 hK (hq10 ▸ (kMi g9)) (List.mem_of_getElem? (i := 3) rfl) dX7_join_30 ?_
      refine aw_aload hK 0 rfl dX7_join_33 ?_
      refine gf_3_1 hK (hq12 ▸ (kMi g11)) (List.mem_of_getElem? (i := 3) rfl) dX7_join_35 ?_
      refine aw_iadd hK dX7_join_38 ?_
      refine aw_iconst hK (0) rfl dX7_join_39 ?_
      obtain ⟨m14, h13, hF⟩ := calv_some hF
      refine aw_cv hK 1 (as := [q_i ((m6 q10 1) + (m6 q12 1)), q_i (0 : Int32)]) (tr_X1_begin h13) gX7_join_X1_begin rfl rfl rfl (by decide) (na := 2) (by decide +kernel) rfl ⟨by decide, by decide⟩ (Nat.le_of_ble_eq_true rfl) (Nat.le_of_ble_eq_true rfl) dX7_join_40 ?_
      refine aw_aload_n hK 2 rfl dX7_join_43 ?_
      refine gf_7_4 hK rfl (3) rfl (List.mem_of_getElem? (i := 2) rfl) dX7_join_44 ?_
      refine aw_aload_n hK 1 rfl dX7_join_47 ?_
      refine aw_iconst hK (0) rfl dX7_join_48 ?_
      obtain ⟨m16, h15, hF⟩ := calv_some hF
      refine aw_cv hK 1 (as := [q_r q10, q_i (0 : Int32)]) (tr_X1_addArcsOf (hq10 ▸ (kMi g9)) h15) gX7_join_X1_addArcsOf rfl rfl rfl (by decide) (na := 2) (by decide +kernel) rfl ⟨by decide, by decide⟩ (Nat.le_of_ble_eq_true rfl) (Nat.le_of_ble_eq_true rfl) dX7_join_49 ?_
      refine aw_aload_n hK 2 rfl dX7_join_52 ?_
      refine gf_7_4 hK rfl (3) rfl (List.mem_of_getElem? (i := 2) rfl) dX7_join_53 ?_
      refine aw_aload hK 0 rfl dX7_join_56 ?_
      refine aw_aload_n hK 1 rfl dX7_join_58 ?_
      refine gf_3_1 hK (hq10 ▸ (kMi g9)) (List.mem_of_getElem? (i := 3) rfl) dX7_join_59 ?_
      obtain ⟨m18, h17, hF⟩ := calv_some hF
      refine aw_cv hK 1 (as := [q_r q12, q_i (m16 q10 1)]) (tr_X1_addArcsOf (hq12 ▸ (kMi g11)) h17) gX7_join_X1_addArcsOf rfl rfl rfl (by decide) (na := 2) (by decide +kernel) rfl ⟨by decide, by decide⟩ (Nat.le_of_ble_eq_true rfl) (Nat.le_of_ble_eq_true rfl) dX7_join_62 ?_
      refine aw_aload_n hK 2 rfl dX7_join_65 ?_
      refine gf_7_4 hK rfl (3) rfl (List.mem_of_getElem? (i := 2) rfl) dX7_join_66 ?_
      refine aw_aload_n hK 1 rfl dX7_join_69 ?_
      refine aw_iconst hK (0) rfl dX7_join_70 ?_
      refine aw_aload_n hK 1 rfl dX7_join_71 ?_
      refine gf_3_1 hK (hq10 ▸ (kMi g9)) (List.mem_of_getElem? (i := 3) rfl) dX7_join_72 ?_
      obtain ⟨m20, h19, hF⟩ := calv_some hF
      refine aw_cv hK 1 (as := [q_r q10, q_i (0 : Int32), q_i (m18 q10 1)]) (tr_X1_leadFromEndsOf (hq10 ▸ (kMi g9)) h19) gX7_join_X1_leadFromEndsOf rfl rfl rfl (by decide) (na := 3) (by decide +kernel) rfl ⟨by decide, by decide⟩ (Nat.le_of_ble_eq_true rfl) (Nat.le_of_ble_eq_true rfl) dX7_join_75 ?_
      refine aw_aload_n hK 2 rfl dX7_join_78 ?_
      refine gf_7_4 hK rfl (3) rfl (List.mem_of_getElem? (i := 2) rfl) dX7_join_79 ?_
      refine aw_aload hK 0 rfl dX7_join_82 ?_
      refine aw_aload_n hK 1 rfl dX7_join_84 ?_
      refine gf_3_1 hK (hq10 ▸ (kMi g9)) (List.mem_of_getElem? (i := 3) rfl) dX7_join_85 ?_
      obtain ⟨m22, h21, hF⟩ := calv_some hF
      refine aw_cv hK 1 (as := [q_r q12, q_i (m20 q10 1)]) (tr_X1_addEndsOf (hq12 ▸ (kMi g11)) h21) gX7_join_X1_addEndsOf rfl rfl rfl (by decide) (na := 2) (by decide +kernel) rfl ⟨by decide, by decide⟩ (Nat.le_of_ble_eq_true rfl) (Nat.le_of_ble_eq_true rfl) dX7_join_88 ?_
      refine aw_aload_n hK 2 rfl dX7_join_91 ?_
      rcases calx_some hF with ⟨r25, m24, h23, hF⟩ | ⟨x_26, m24, h23, hF⟩
      · refine aw_cvXr hK (kxb hR) 7 (as := []) (trX_X7_keepDraft h23) gX7_join_X7_keepDraft rfl rfl rfl (by decide) (na := 0) (by decide +kernel) rfl ⟨by decide, by decide⟩ (Nat.le_of_ble_eq_true rfl) (Nat.le_of_ble_eq_true rfl) dX7_join_92 ?_
        obtain ⟨rfl, rfl⟩ := so_inj hF
        exact aw_iretX hK hR rfl (Nat.le_of_ble_eq_true rfl) dX7_join_95
      · obtain ⟨rfl, rfl⟩ := Prod.mk.inj hF
        exact aw_cvXx hK hR 7 (as := []) (trX_X7_keepDraft h23) gX7_join_X7_keepDraft rfl rfl rfl (by decide) (na := 0) (by decide +kernel) rfl ⟨by decide, by decide⟩ (Nat.le_of_ble_eq_true rfl) (Nat.le_of_ble_eq_true rfl) dX7_join_92
    · obtain ⟨rfl, rfl⟩ := Prod.mk.inj hF
      exact aw_cvXx hK hR 7 (as := [q_i x2]) (trX_X7_needMachine h5) gX7_join_X7_needMachine rfl rfl rfl (by decide) (na := 1) (by decide +kernel) rfl ⟨by decide, by decide⟩ (Nat.le_of_ble_eq_true rfl) (Nat.le_of_ble_eq_true rfl) dX7_join_7
  · obtain ⟨rfl, rfl⟩ := Prod.mk.inj hF
    exact aw_cvXx hK hR 7 (as := [q_i x1]) (trX_X7_needMachine h1) gX7_join_X7_needMachine rfl rfl rfl (by decide) (na := 1) (by decide +kernel) rfl ⟨by decide, by decide⟩ (Nat.le_of_ble_eq_true rfl) (Nat.le_of_ble_eq_true rfl) dX7_join_2
def F_X7_unite (N : Nat) (m : Mem) (x1 : Int32) (x2 : Int32) : Option ((Int32 ⊕ Nat) × Mem) :=
  calx (F_X7_needMachine N m x1) fun r3 m2 =>
  calx (F_X7_needMachine N m2 x2) fun r7 m6 =>
  gd (inb x1 (alen 2)) <|
  bnd (200 + 4 * ix x1) fun q10 =>
  gd (inb x2 (alen 2)) <|
  bnd (200 + 4 * ix x2) fun q12 =>
  bnd ((m6 q10 1) + (m6 q12 1)) fun y13 =>
  calv (F_X1_begin N m6 (y13 + (1 : Int32)) y13) fun m15 =>
  calv (F_X1_addArcsOf N m15 q10 (0 : Int32)) fun m17 =>
  calv (F_X1_addArcsOf N m17 q12 (m17 q10 1)) fun m19 =>
  calv (F_X1_addEndsOf N m19 q10 (0 : Int32)) fun m21 =>
  calv (F_X1_addEndsOf N m21 q12 (m21 q10 1)) fun m23 =>
  calv (F_X1_addArc N m23 y13 (8 : Int32) (8 : Int32) (0 : Int32) (0 : Int32)) fun m25 =>
  calv (F_X1_addArc N m25 y13 (8 : Int32) (8 : Int32) (0 : Int32) (m25 q10 1)) fun m27 =>
  calx (F_X7_keepDraft N m27) fun r30 m29 =>
  some (.inl r30, m29)
set_option maxRecDepth 100000 in
set_option maxHeartbeats 4000000 in
theorem trX_X7_unite {N : Nat} {m m' : Mem} {res : Int32 ⊕ Nat} {x1 : Int32} {x2 : Int32} (hF : F_X7_unite N m x1 x2 = some (res, m')) : TrX yX7_unite wsX7_unite 7 114 3 [q_r 0, q_i x1, q_i x2] m (xo true res) m' := by
  refine trX_of (bytes := cX7_unite) (maxL := 6) (ret := (some .int)) (by decide) rfl (Nat.le_of_ble_eq_true rfl) (fun K hK hR => ?_)
  have hK : KOK K cX7_unite 6 RX7 wsX7_unite 7 3 114 := hK
  show AW K 0 0 [(0, q_r 0), (1, q_i x1), (2, q_i x2)] [] m
  unfold F_X7_unite at hF
  refine aw_aload_n hK 0 rfl dX7_unite_0 ?_
  refine aw_iload_n hK 1 rfl dX7_unite_1 ?_
  rcases calx_some hF with ⟨r3, m2, h1, hF⟩ | ⟨x_4, m2, h1, hF⟩
  · refine aw_cvXr hK (kxb hR) 7 (as := [q_i x1]) (trX_X7_needMachine h1) gX7_unite_X7_needMachine rfl rfl rfl (by decide) (na := 1) (by decide +kernel) rfl ⟨by decide, by decide⟩ (Nat.le_of_ble_eq_true rfl) (Nat.le_of_ble_eq_true rfl) dX7_unite_2 ?_
    refine aw_aload_n hK 0 rfl dX7_unite_5 ?_
    refine aw_iload_n hK 2 rfl dX7_unite_6 ?_
    rcases calx_some hF with ⟨r7, m6, h5, hF⟩ | ⟨x_8, m6, h5, hF⟩
    · refine aw_cvXr hK (kxb hR) 7 (as := [q_i x2]) (trX_X7_needMachine h5) gX7_unite_X7_needMachine rfl rfl rfl (by decide) (na := 1) (by decide +kernel) rfl ⟨by decide, by decide⟩ (Nat.le_of_ble_eq_true rfl) (Nat.le_of_ble_eq_true rfl) dX7_unite_7 ?_
      refine aw_aload_n hK 0 rfl dX7_unite_10 ?_
      refine gf_7_2 hK rfl (2) rfl (List.mem_of_getElem? (i := 1) rfl) dX7_unite_11 ?_
      refine aw_iload_n hK 1 rfl dX7_unite_14 ?_
      obtain ⟨g9, hF⟩ := gd_some hF
      refine aw_aald hK rfl g9 dX7_unite_15 ?_
      obtain ⟨q10, hq10, hF⟩ := bnd_some hF
      refine aw_nr hq10 ?_
      refine aw_astore_n hK [(3, q_r q10), (0, q_r 0), (1, q_i x1), (2, q_i x2)] (by decide) rfl dX7_unite_16 ?_
      refine aw_aload_n hK 1 rfl dX7_unite_17 ?_
      refine gf_7_2 hK rfl (2) rfl (List.mem_of_getElem? (i := 1) rfl) dX7_unite_18 ?_
      refine aw_iload_n hK 3 rfl dX7_unite_21 ?_
      obtain ⟨g11, hF⟩ := gd_some hF
      refine aw_aald hK rfl g11 dX7_unite_22 ?_
      obtain ⟨q12, hq12, hF⟩ := bnd_some hF
      refine aw_nr hq12 ?_
      refine aw_astore hK [(4, q_r q12), (3, q_r q10), (0, q_r 0), (1, q_i x1), (2, q_i x2)] (by decide) rfl dX7_unite_23 ?_
      refine aw_aload_n hK 1 rfl dX7_unite_25 ?_
      refine gf_3_1 hK (hq10 ▸ (kMi g9)) (List.mem_of_getElem? (i := 2) rfl) dX7_unite_26 ?_
      refine aw_aload hK 0 rfl dX7_unite_29 ?_
      refine gf_3_1 hK (hq12 ▸ (kMi g11)) (List.mem_of_getElem? (i := 2) rfl) dX7_unite_31 ?_
      refine aw_iadd hK dX7_unite_34 ?_
      obtain ⟨y13, hy13, hF⟩ := bnd_some hF
      refine aw_nm hy13 ?_
      refine aw_istore hK [(5, q_i y13), (4, q_r q12), (3, q_r q10), (0, q_r 0), (1, q_i x1), (2, q_i x2)] (by decide) rfl dX7_unite_35 ?_
      refine aw_aload_n hK 3 rfl dX7_unite_37 ?_
      refine gf_7_4 hK rfl (3) rfl (List.mem_of_getElem? (i := 3) rfl) dX7_unite_38 ?_
      refine aw_iload hK 0 rfl dX7_unite_41 ?_
      refine aw_iconst hK (1) rfl dX7_unite_43 ?_
      refine aw_iadd hK dX7_unite_44 ?_
      refine aw_iload hK 0 rfl dX7_unite_45 ?_
      obtain ⟨m15, h14, hF⟩ := calv_some hF
      refine aw_cv hK 1 (as := [q_i (y13 + (1 : Int32)), q_i y13]) (tr_X1_begin h14) gX7_unite_X1_begin rfl rfl rfl (by decide) (na := 2) (by decide +kernel) rfl ⟨by decide, by decide⟩ (Nat.le_of_ble_eq_true rfl) (Nat.le_of_ble_eq_true rfl) dX7_unite_47 ?_
      refine aw_aload_n hK 3 rfl dX7_unite_50 ?_
      refine gf_7_4 hK rfl (3) rfl (List.mem_of_getElem? (i := 3) rfl) dX7_unite_51 ?_
      refine aw_aload_n hK 2 rfl dX7_unite_54 ?_
      refine aw_iconst hK (0) rfl dX7_unite_55 ?_
      obtain ⟨m17, h16, hF⟩ := calv_some hF
      refine aw_cv hK 1 (as := [q_r q10, q_i (0 : Int32)]) (tr_X1_addArcsOf (hq10 ▸ (kMi g9)) h16) gX7_unite_X1_addArcsOf rfl rfl rfl (by decide) (na := 2) (by decide +kernel) rfl ⟨by decide, by decide⟩ (Nat.le_of_ble_eq_true rfl) (Nat.le_of_ble_eq_true rfl) dX7_unite_56 ?_
      refine aw_aload_n hK 3 rfl dX7_unite_59 ?_
      refine gf_7_4 hK rfl (3) rfl (List.mem_of_getElem? (i := 3) rfl) dX7_unite_60 ?_
      refine aw_aload hK 1 rfl dX7_unite_63 ?_
      refine aw_aload_n hK 2 rfl dX7_unite_65 ?_
      refine gf_3_1 hK (hq10 ▸ (kMi g9)) (List.mem_of_getElem? (i := 2) rfl) dX7_unite_66 ?_
      obtain ⟨m19, h18, hF⟩ := calv_some hF
      refine aw_cv hK 1 (as := [q_r q12, q_i (m17 q10 1)]) (tr_X1_addArcsOf (hq12 ▸ (kMi g11)) h18) gX7_unite_X1_addArcsOf rfl rfl rfl (by decide) (na := 2) (by decide +kernel) rfl ⟨by decide, by decide⟩ (Nat.le_of_ble_eq_true rfl) (Nat.le_of_ble_eq_true rfl) dX7_unite_69 ?_
      refine aw_aload_n hK 3 rfl dX7_unite_72 ?_
      refine gf_7_4 hK rfl (3) rfl (List.mem_of_getElem? (i := 3) rfl) dX7_unite_73 ?_
      refine aw_aload_n hK 2 rfl dX7_unite_76 ?_
      refine aw_iconst hK (0) rfl dX7_unite_77 ?_
      obtain ⟨m21, h20, hF⟩ := calv_some hF
      refine aw_cv hK 1 (as := [q_r q10, q_i (0 : Int32)]) (tr_X1_addEndsOf (hq10 ▸ (kMi g9)) h20) gX7_unite_X1_addEndsOf rfl rfl rfl (by decide) (na := 2) (by decide +kernel) rfl ⟨by decide, by decide⟩ (Nat.le_of_ble_eq_true rfl) (Nat.le_of_ble_eq_true rfl) dX7_unite_78 ?_
      refine aw_aload_n hK 3 rfl dX7_unite_81 ?_
      refine gf_7_4 hK rfl (3) rfl (List.mem_of_getElem? (i := 3) rfl) dX7_unite_82 ?_
      refine aw_aload hK 1 rfl dX7_unite_85 ?_
      refine aw_aload_n hK 2 rfl dX7_unite_87 ?_
      refine gf_3_1 hK (hq10 ▸ (kMi g9)) (List.mem_of_getElem? (i := 2) rfl) dX7_unite_88 ?_
      obtain ⟨m23, h22, hF⟩ := calv_some hF
      refine aw_cv hK 1 (as := [q_r q12, q_i (m21 q10 1)]) (tr_X1_addEndsOf (hq12 ▸ (kMi g11)) h22) gX7_unite_X1_addEndsOf rfl rfl rfl (by decide) (na := 2) (by decide +kernel) rfl ⟨by decide, by decide⟩ (Nat.le_of_ble_eq_true rfl) (Nat.le_of_ble_eq_true rfl) dX7_unite_91 ?_
      refine aw_aload_n hK 3 rfl dX7_unite_94 ?_
      refine gf_7_4 hK rfl (3) rfl (List.mem_of_getElem? (i := 3) rfl) dX7_unite_95 ?_
      refine aw_iload hK 0 rfl dX7_unite_98 ?_
      refine aw_bipush hK (8) rfl dX7_unite_100 ?_
      refine aw_bipush hK (8) rfl dX7_unite_102 ?_
      refine aw_iconst hK (0) rfl dX7_unite_104 ?_
      refine aw_iconst hK (0) rfl dX7_unite_105 ?_
      obtain ⟨m25, h24, hF⟩ := calv_some hF
      refine aw_cv hK 1 (as := [q_i y13, q_i (8 : Int32), q_i (8 : Int32), q_i (0 : Int32), q_i (0 : Int32)]) (tr_X1_addArc h24) gX7_unite_X1_addArc rfl rfl rfl (by decide) (na := 5) (by decide +kernel) rfl ⟨by decide, by decide⟩ (Nat.le_of_ble_eq_true rfl) (Nat.le_of_ble_eq_true rfl) dX7_unite_106 ?_
      refine aw_aload_n hK 3 rfl dX7_unite_109 ?_
      refine gf_7_4 hK rfl (3) rfl (List.mem_of_getElem? (i := 3) rfl) dX7_unite_110 ?_
      refine aw_iload hK 0 rfl dX7_unite_113 ?_
      refine aw_bipush hK (8) rfl dX7_unite_115 ?_
      refine aw_bipush hK (8) rfl dX7_unite_117 ?_
      refine aw_iconst hK (0) rfl dX7_unite_119 ?_
      refine aw_aload_n hK 2 rfl dX7_unite_120 ?_
      refine gf_3_1 hK (hq10 ▸ (kMi g9)) (List.mem_of_getElem? (i := 2) rfl) dX7_unite_121 ?_
      obtain ⟨m27, h26, hF⟩ := calv_some hF
      refine aw_cv hK 1 (as := [q_i y13, q_i (8 : Int32), q_i (8 : Int32), q_i (0 : Int32), q_i (m25 q10 1)]) (tr_X1_addArc h26) gX7_unite_X1_addArc rfl rfl rfl (by decide) (na := 5) (by decide +kernel) rfl ⟨by decide, by decide⟩ (Nat.le_of_ble_eq_true rfl) (Nat.le_of_ble_eq_true rfl) dX7_unite_124 ?_
      refine aw_aload_n hK 3 rfl dX7_unite_127 ?_
      rcases calx_some hF with ⟨r30, m29, h28, hF⟩ | ⟨x_31, m29, h28, hF⟩
      · refine aw_cvXr hK (kxb hR) 7 (as := []) (trX_X7_keepDraft h28) gX7_unite_X7_keepDraft rfl rfl rfl (by decide) (na := 0) (by decide +kernel) rfl ⟨by decide, by decide⟩ (Nat.le_of_ble_eq_true rfl) (Nat.le_of_ble_eq_true rfl) dX7_unite_128 ?_
        obtain ⟨rfl, rfl⟩ := so_inj hF
        exact aw_iretX hK hR rfl (Nat.le_of_ble_eq_true rfl) dX7_unite_131
      · obtain ⟨rfl, rfl⟩ := Prod.mk.inj hF
        exact aw_cvXx hK hR 7 (as := []) (trX_X7_keepDraft h28) gX7_unite_X7_keepDraft rfl rfl rfl (by decide) (na := 0) (by decide +kernel) rfl ⟨by decide, by decide⟩ (Nat.le_of_ble_eq_true rfl) (Nat.le_of_ble_eq_true rfl) dX7_unite_128
    · obtain ⟨rfl, rfl⟩ := Prod.mk.inj hF
      exact aw_cvXx hK hR 7 (as := [q_i x2]) (trX_X7_needMachine h5) gX7_unite_X7_needMachine rfl rfl rfl (by decide) (na := 1) (by decide +kernel) rfl ⟨by decide, by decide⟩ (Nat.le_of_ble_eq_true rfl) (Nat.le_of_ble_eq_true rfl) dX7_unite_7
  · obtain ⟨rfl, rfl⟩ := Prod.mk.inj hF
    exact aw_cvXx hK hR 7 (as := [q_i x1]) (trX_X7_needMachine h1) gX7_unite_X7_needMachine rfl rfl rfl (by decide) (na := 1) (by decide +kernel) rfl ⟨by decide, by decide⟩ (Nat.le_of_ble_eq_true rfl) (Nat.le_of_ble_eq_true rfl) dX7_unite_2
def B_X7_repeat_28 (N : Nat) (m : Mem) : Option ((Int32 ⊕ Nat) × Mem) :=
  some (.inr 1, m)
set_option maxRecDepth 100000 in
set_option maxHeartbeats 4000000 in
theorem bk_X7_repeat_28 {N : Nat} {K : KT} {m' : Mem} {res : Int32 ⊕ Nat} (hK : KOK K cX7_repeat 4 RX7 wsX7_repeat 7 2 114) (hR : KX K (some .int) (xo true res) m' 2) {m : Mem} (hF : B_X7_repeat_28 N m = some (res, m')) : AW K 1 28 [] [] m := by
  unfold B_X7_repeat_28 at hF
  obtain ⟨rfl, rfl⟩ := so_inj hF
  exact aw_throw (ik := 66) (ic := 70) (x := 1) hK hR (by decide) (List.mem_of_getElem? (i := 1) rfl) (List.mem_of_getElem? (i := 2) rfl) (List.mem_of_getElem? (i := 3) rfl) (by decide +kernel) (by decide +kernel) (by decide +kernel) (by decide +kernel) ⟨by decide, by decide⟩ (Nat.le_of_ble_eq_true rfl) (Nat.le_of_ble_eq_true rfl) dX7_repeat_28 dX7_repeat_31 dX7_repeat_32 dX7_repeat_34 dX7_repeat_37
def F_X7_repeat (N : Nat) (m : Mem) (x1 : Int32) : Option ((Int32 ⊕ Nat) × Mem) :=
  calx (F_X7_needMachine N m x1) fun r3 m2 =>
  gd (inb x1 (alen 2)) <|
  bnd (200 + 4 * ix x1) fun q6 =>
  cal (F_X3_relatesEmpty N m2 q6 (1 : Int32)) fun r9 m8 =>
  if r9 = (0 : Int32) then (
    cal (F_X3_relatesEmpty N m8 q6 (0 : Int32)) fun r12 m11 =>
    if r12 = (0 : Int32) then (
      bnd (m11 q6 1) fun y13 =>
      calv (F_X1_begin N m11 (y13 + (1 : Int32)) y13) fun m15 =>
      calv (F_X1_addArcsOf N m15 q6 (0 : Int32)) fun m17 =>
      calv (F_X1_addArc N m17 y13 (8 : Int32) (8 : Int32) (0 : Int32) (0 : Int32)) fun m19 =>
      calv (F_X1_leadFromEndsOf N m19 q6 (0 : Int32) y13) fun m21 =>
      calv (F_X1_addEnd N m21 y13) fun m23 =>
      calx (F_X7_keepDraft N m23) fun r26 m25 =>
      some (.inl r26, m25)
    ) else (
      B_X7_repeat_28 N m11
    )
  ) else (
    B_X7_repeat_28 N m8
  )
set_option maxRecDepth 100000 in
set_option maxHeartbeats 4000000 in
theorem trX_X7_repeat {N : Nat} {m m' : Mem} {res : Int32 ⊕ Nat} {x1 : Int32} (hF : F_X7_repeat N m x1 = some (res, m')) : TrX yX7_repeat wsX7_repeat 7 114 2 [q_r 0, q_i x1] m (xo true res) m' := by
  refine trX_of (bytes := cX7_repeat) (maxL := 4) (ret := (some .int)) (by decide) rfl (Nat.le_of_ble_eq_true rfl) (fun K hK hR => ?_)
  have hK : KOK K cX7_repeat 4 RX7 wsX7_repeat 7 2 114 := hK
  show AW K 0 0 [(0, q_r 0), (1, q_i x1)] [] m
  unfold F_X7_repeat at hF
  refine aw_aload_n hK 0 rfl dX7_repeat_0 ?_
  refine aw_iload_n hK 1 rfl dX7_repeat_1 ?_
  rcases calx_some hF with ⟨r3, m2, h1, hF⟩ | ⟨x_4, m2, h1, hF⟩
  · refine aw_cvXr hK (kxb hR) 7 (as := [q_i x1]) (trX_X7_needMachine h1) gX7_repeat_X7_needMachine rfl rfl rfl (by decide) (na := 1) (by decide +kernel) rfl ⟨by decide, by decide⟩ (Nat.le_of_ble_eq_true rfl) (Nat.le_of_ble_eq_true rfl) dX7_repeat_2 ?_
    refine aw_aload_n hK 0 rfl dX7_repeat_5 ?_
    refine gf_7_2 hK rfl (2) rfl (List.mem_of_getElem? (i := 3) rfl) dX7_repeat_6 ?_
    refine aw_iload_n hK 1 rfl dX7_repeat_9 ?_
    obtain ⟨g5, hF⟩ := gd_some hF
    refine aw_aald hK rfl g5 dX7_repeat_10 ?_
    obtain ⟨q6, hq6, hF⟩ := bnd_some hF
    refine aw_nr hq6 ?_
    refine aw_astore_n hK [(2, q_r q6), (0, q_r 0), (1, q_i x1)] (by decide) rfl dX7_repeat_11 ?_
    refine aw_aload_n hK 0 rfl dX7_repeat_12 ?_
    refine aw_iconst hK (1) rfl dX7_repeat_13 ?_
    obtain ⟨r9, m8, h7, hF⟩ := cal_some hF
    refine aw_cv hK 3 (as := [q_i (1 : Int32)]) (tr_X3_relatesEmpty (hq6 ▸ (kMi g5)) h7) gX7_repeat_X3_relatesEmpty rfl rfl (hq6 ▸ (kMi g5)) (by decide) (na := 1) (by decide +kernel) rfl ⟨by decide, by decide⟩ (Nat.le_of_ble_eq_true rfl) (Nat.le_of_ble_eq_true rfl) dX7_repeat_14 ?_
    refine aw_if_ne hK 28 rfl dX7_repeat_17 (fun hc => ?_) (fun hc => ?_)
    · have hF := if_f hF hc
      refine aw_sub [] (lv' := []) rfl ?_
      exact bk_X7_repeat_28 hK hR hF
    · have hF := if_t hF hc
      refine aw_aload_n hK 0 rfl dX7_repeat_20 ?_
      refine aw_iconst hK (0) rfl dX7_repeat_21 ?_
      obtain ⟨r12, m11, h10, hF⟩ := cal_some hF
      refine aw_cv hK 3 (as := [q_i (0 : Int32)]) (tr_X3_relatesEmpty (hq6 ▸ (kMi g5)) h10) gX7_repeat_X3_relatesEmpty rfl rfl (hq6 ▸ (kMi g5)) (by decide) (na := 1) (by decide +kernel) rfl ⟨by decide, by decide⟩ (Nat.le_of_ble_eq_true rfl) (Nat.le_of_ble_eq_true rfl) dX7_repeat_22 ?_
      refine aw_if_eq hK 38 rfl dX7_repeat_25 (fun hc => ?_) (fun hc => ?_)
      · have hF := if_t hF hc
        refine aw_aload_n hK 0 rfl dX7_repeat_38 ?_
        refine gf_3_1 hK (hq6 ▸ (kMi g5)) (List.mem_of_getElem? (i := 4) rfl) dX7_repeat_39 ?_
        obtain ⟨y13, hy13, hF⟩ := bnd_some hF
        refine aw_nm hy13 ?_
        refine aw_istore_n hK [(3, q_i y13), (2, q_r q6), (0, q_r 0), (1, q_i x1)] (by decide) rfl dX7_repeat_42 ?_
        refine aw_aload_n hK 2 rfl dX7_repeat_43 ?_
        refine gf_7_4 hK rfl (3) rfl (List.mem_of_getElem? (i := 5) rfl) dX7_repeat_44 ?_
        refine aw_iload_n hK 0 rfl dX7_repeat_47 ?_
        refine aw_iconst hK (1) rfl dX7_repeat_48 ?_
        refine aw_iadd hK dX7_repeat_49 ?_
        refine aw_iload_n hK 0 rfl dX7_repeat_50 ?_
        obtain ⟨m15, h14, hF⟩ := calv_some hF
        refine aw_cv hK 1 (as := [q_i (y13 + (1 : Int32)), q_i y13]) (tr_X1_begin h14) gX7_repeat_X1_begin rfl rfl rfl (by decide) (na := 2) (by decide +kernel) rfl ⟨by decide, by decide⟩ (Nat.le_of_ble_eq_true rfl) (Nat.le_of_ble_eq_true rfl) dX7_repeat_51 ?_
        refine aw_aload_n hK 2 rfl dX7_repeat_54 ?_
        refine gf_7_4 hK rfl (3) rfl (List.mem_of_getElem? (i := 5) rfl) dX7_repeat_55 ?_
        refine aw_aload_n hK 1 rfl dX7_repeat_58 ?_
        refine aw_iconst hK (0) rfl dX7_repeat_59 ?_
        obtain ⟨m17, h16, hF⟩ := calv_some hF
        refine aw_cv hK 1 (as := [q_r q6, q_i (0 : Int32)]) (tr_X1_addArcsOf (hq6 ▸ (kMi g5)) h16) gX7_repeat_X1_addArcsOf rfl rfl rfl (by decide) (na := 2) (by decide +kernel) rfl ⟨by decide, by decide⟩ (Nat.le_of_ble_eq_true rfl) (Nat.le_of_ble_eq_true rfl) dX7_repeat_60 ?_
        refine aw_aload_n hK 2 rfl dX7_repeat_63 ?_
        refine gf_7_4 hK rfl (3) rfl (List.mem_of_getElem? (i := 5) rfl) dX7_repeat_64 ?_
        refine aw_iload_n hK 0 rfl dX7_repeat_67 ?_
        refine aw_bipush hK (8) rfl dX7_repeat_68 ?_
        refine aw_bipush hK (8) rfl dX7_repeat_70 ?_
        refine aw_iconst hK (0) rfl dX7_repeat_72 ?_
        refine aw_iconst hK (0) rfl dX7_repeat_73 ?_
        obtain ⟨m19, h18, hF⟩ := calv_some hF
        refine aw_cv hK 1 (as := [q_i y13, q_i (8 : Int32), q_i (8 : Int32), q_i (0 : Int32), q_i (0 : Int32)]) (tr_X1_addArc h18) gX7_repeat_X1_addArc rfl rfl rfl (by decide) (na := 5) (by decide +kernel) rfl ⟨by decide, by decide⟩ (Nat.le_of_ble_eq_true rfl) (Nat.le_of_ble_eq_true rfl) dX7_repeat_74 ?_
        refine aw_aload_n hK 2 rfl dX7_repeat_77 ?_
        refine gf_7_4 hK rfl (3) rfl (List.mem_of_getElem? (i := 5) rfl) dX7_repeat_78 ?_
        refine aw_aload_n hK 1 rfl dX7_repeat_81 ?_
        refine aw_iconst hK (0) rfl dX7_repeat_82 ?_
        refine aw_iload_n hK 0 rfl dX7_repeat_83 ?_
        obtain ⟨m21, h20, hF⟩ := calv_some hF
        refine aw_cv hK 1 (as := [q_r q6, q_i (0 : Int32), q_i y13]) (tr_X1_leadFromEndsOf (hq6 ▸ (kMi g5)) h20) gX7_repeat_X1_leadFromEndsOf rfl rfl rfl (by decide) (na := 3) (by decide +kernel) rfl ⟨by decide, by decide⟩ (Nat.le_of_ble_eq_true rfl) (Nat.le_of_ble_eq_true rfl) dX7_repeat_84 ?_
        refine aw_aload_n hK 2 rfl dX7_repeat_87 ?_
        refine gf_7_4 hK rfl (3) rfl (List.mem_of_getElem? (i := 5) rfl) dX7_repeat_88 ?_
        refine aw_iload_n hK 0 rfl dX7_repeat_91 ?_
        obtain ⟨m23, h22, hF⟩ := calv_some hF
        refine aw_cv hK 1 (as := [q_i y13]) (tr_X1_addEnd h22) gX7_repeat_X1_addEnd rfl rfl rfl (by decide) (na := 1) (by decide +kernel) rfl ⟨by decide, by decide⟩ (Nat.le_of_ble_eq_true rfl) (Nat.le_of_ble_eq_true rfl) dX7_repeat_92 ?_
        refine aw_aload_n hK 2 rfl dX7_repeat_95 ?_
        rcases calx_some hF with ⟨r26, m25, h24, hF⟩ | ⟨x_27, m25, h24, hF⟩
        · refine aw_cvXr hK (kxb hR) 7 (as := []) (trX_X7_keepDraft h24) gX7_repeat_X7_keepDraft rfl rfl rfl (by decide) (na := 0) (by decide +kernel) rfl ⟨by decide, by decide⟩ (Nat.le_of_ble_eq_true rfl) (Nat.le_of_ble_eq_true rfl) dX7_repeat_96 ?_
          obtain ⟨rfl, rfl⟩ := so_inj hF
          exact aw_iretX hK hR rfl (Nat.le_of_ble_eq_true rfl) dX7_repeat_99
        · obtain ⟨rfl, rfl⟩ := Prod.mk.inj hF
          exact aw_cvXx hK hR 7 (as := []) (trX_X7_keepDraft h24) gX7_repeat_X7_keepDraft rfl rfl rfl (by decide) (na := 0) (by decide +kernel) rfl ⟨by decide, by decide⟩ (Nat.le_of_ble_eq_true rfl) (Nat.le_of_ble_eq_true rfl) dX7_repeat_96
      · have hF := if_f hF hc
        refine aw_sub [] (lv' := []) rfl ?_
        exact bk_X7_repeat_28 hK hR hF
  · obtain ⟨rfl, rfl⟩ := Prod.mk.inj hF
    exact aw_cvXx hK hR 7 (as := [q_i x1]) (trX_X7_needMachine h1) gX7_repeat_X7_needMachine rfl rfl rfl (by decide) (na := 1) (by decide +kernel) rfl ⟨by decide, by decide⟩ (Nat.le_of_ble_eq_true rfl) (Nat.le_of_ble_eq_true rfl) dX7_repeat_2
def S_X7_turn_26 (N : Nat) (rec_26 : Mem → Nat → Int32 → Option ((Int32 ⊕ Nat) × Mem)) (m : Mem) (a2 : Nat) (x3 : Int32) : Option ((Int32 ⊕ Nat) × Mem) :=
  if (m (a2 + 1) 2) ≤ x3 then (
    calv (F_X1_addEndsOf N m a2 (0 : Int32)) fun m10 =>
    calx (F_X7_keepDraft N m10) fun r13 m12 =>
    some (.inl r13, m12)
  ) else (
    gd (inb x3 (alen ((a2 + 1) + 1))) <|
    bnd (m ((a2 + 1) + 1) (ix x3)) fun y16 =>
    gd (inb x3 (alen ((a2 + 1) + 2))) <|
    calv (F_X1_addArc N m (P_X7_fromOf y16) (P_X7_lowerOf y16) (P_X7_upperOf y16) (m ((a2 + 1) + 2) (ix x3)) (P_X7_toOf y16)) fun m19 =>
    bnd (x3 + (1 : Int32)) fun y20 =>
    rec_26 m19 a2 y20
  )
def L_X7_turn_26 (N : Nat) : Nat → Mem → Nat → Int32 → Option ((Int32 ⊕ Nat) × Mem)
  | 0 => fun _ _ _ => none
  | f + 1 => S_X7_turn_26 N (L_X7_turn_26 N f)
set_option maxRecDepth 100000 in
set_option maxHeartbeats 4000000 in
theorem lp_X7_turn_26 {N : Nat} {K : KT} {m' : Mem} {res : Int32 ⊕ Nat} (hK : KOK K cX7_turn 5 RX7 wsX7_turn 7 2 114) (hR : KX K (some .int) (xo true res) m' 2) : ∀ (f : Nat) {m : Mem} {a2 : Nat} {x3 : Int32} (hk2 : knd a2 = 3), L_X7_turn_26 N f m a2 x3 = some (res, m') → AW K 1 26 [(0, q_r 0), (2, q_r a2), (3, q_i x3)] [] m := by
  intro f
  induction f with
  | zero => intro m a2 x3 hk2 hF; cases hF
  | succ f hrec_26 =>
    intro m a2 x3 hk2 hF
    have hF : S_X7_turn_26 N (L_X7_turn_26 N f) m a2 x3 = some (res, m') := hF
    unfold S_X7_turn_26 at hF
    refine aw_iload_n hK 2 rfl dX7_turn_26 ?_
    refine aw_aload_n hK 1 rfl dX7_turn_27 ?_
    refine gf_3_0 hK hk2 (a2 + 1) rfl (List.mem_of_getElem? (i := 4) rfl) dX7_turn_28 ?_
    refine gf_0_2 hK (kM1 hk2) (List.mem_of_getElem? (i := 5) rfl) dX7_turn_31 ?_
    refine aw_icmp_ge hK 90 rfl dX7_turn_34 (fun hc => ?_) (fun hc => ?_)
    · have hF := if_t hF hc
      refine aw_aload_n hK 0 rfl dX7_turn_90 ?_
      refine gf_7_4 hK rfl (3) rfl (List.mem_of_getElem? (i := 2) rfl) dX7_turn_91 ?_
      refine aw_aload_n hK 1 rfl dX7_turn_94 ?_
      refine aw_iconst hK (0) rfl dX7_turn_95 ?_
      obtain ⟨m10, h9, hF⟩ := calv_some hF
      refine aw_cv hK 1 (as := [q_r a2, q_i (0 : Int32)]) (tr_X1_addEndsOf hk2 h9) gX7_turn_X1_addEndsOf rfl rfl rfl (by decide) (na := 2) (by decide +kernel) rfl ⟨by decide, by decide⟩ (Nat.le_of_ble_eq_true rfl) (Nat.le_of_ble_eq_true rfl) dX7_turn_96 ?_
      refine aw_aload_n hK 0 rfl dX7_turn_99 ?_
      rcases calx_some hF with ⟨r13, m12, h11, hF⟩ | ⟨x_14, m12, h11, hF⟩
      · refine aw_cvXr hK (kxb hR) 7 (as := []) (trX_X7_keepDraft h11) gX7_turn_X7_keepDraft rfl rfl rfl (by decide) (na := 0) (by decide +kernel) rfl ⟨by decide, by decide⟩ (Nat.le_of_ble_eq_true rfl) (Nat.le_of_ble_eq_true rfl) dX7_turn_100 ?_
        obtain ⟨rfl, rfl⟩ := so_inj hF
        exact aw_iretX hK hR rfl (Nat.le_of_ble_eq_true rfl) dX7_turn_103
      · obtain ⟨rfl, rfl⟩ := Prod.mk.inj hF
        exact aw_cvXx hK hR 7 (as := []) (trX_X7_keepDraft h11) gX7_turn_X7_keepDraft rfl rfl rfl (by decide) (na := 0) (by decide +kernel) rfl ⟨by decide, by decide⟩ (Nat.le_of_ble_eq_true rfl) (Nat.le_of_ble_eq_true rfl) dX7_turn_100
    · have hF := if_f hF hc
      refine aw_aload_n hK 1 rfl dX7_turn_37 ?_
      refine gf_3_0 hK hk2 (a2 + 1) rfl (List.mem_of_getElem? (i := 4) rfl) dX7_turn_38 ?_
      refine gf_0_0 hK (kM1 hk2) ((a2 + 1) + 1) rfl (List.mem_of_getElem? (i := 6) rfl) dX7_turn_41 ?_
      refine aw_iload_n hK 2 rfl dX7_turn_44 ?_
      obtain ⟨g15, hF⟩ := gd_some hF
      refine aw_iald hK (kA1 (kM1 hk2)) g15 dX7_turn_45 ?_
      obtain ⟨y16, hy16, hF⟩ := bnd_some hF
      refine aw_nm hy16 ?_
      refine aw_istore hK [(4, q_i y16), (0, q_r 0), (2, q_r a2), (3, q_i x3)] (by decide) rfl dX7_turn_46 ?_
      refine aw_aload_n hK 1 rfl dX7_turn_48 ?_
      refine gf_7_4 hK rfl (3) rfl (List.mem_of_getElem? (i := 2) rfl) dX7_turn_49 ?_
      refine aw_iload hK 0 rfl dX7_turn_52 ?_
      refine aw_cs hK (as := [q_i y16]) (trp_X7_fromOf y16 _) gX7_turn_X7_fromOf rfl (na := 1) (by decide +kernel) rfl ⟨by decide, by decide⟩ (Nat.le_of_ble_eq_true rfl) (Nat.le_of_ble_eq_true rfl) dX7_turn_54 ?_
      refine aw_iload hK 0 rfl dX7_turn_57 ?_
      refine aw_cs hK (as := [q_i y16]) (trp_X7_lowerOf y16 _) gX7_turn_X7_lowerOf rfl (na := 1) (by decide +kernel) rfl ⟨by decide, by decide⟩ (Nat.le_of_ble_eq_true rfl) (Nat.le_of_ble_eq_true rfl) dX7_turn_59 ?_
      refine aw_iload hK 0 rfl dX7_turn_62 ?_
      refine aw_cs hK (as := [q_i y16]) (trp_X7_upperOf y16 _) gX7_turn_X7_upperOf rfl (na := 1) (by decide +kernel) rfl ⟨by decide, by decide⟩ (Nat.le_of_ble_eq_true rfl) (Nat.le_of_ble_eq_true rfl) dX7_turn_64 ?_
      refine aw_aload_n hK 2 rfl dX7_turn_67 ?_
      refine gf_3_0 hK hk2 (a2 + 1) rfl (List.mem_of_getElem? (i := 4) rfl) dX7_turn_68 ?_
      refine gf_0_1 hK (kM1 hk2) ((a2 + 1) + 2) rfl (List.mem_of_getElem? (i := 7) rfl) dX7_turn_71 ?_
      refine aw_iload_n hK 3 rfl dX7_turn_74 ?_
      obtain ⟨g17, hF⟩ := gd_some hF
      refine aw_iald hK (kA2 (kM1 hk2)) g17 dX7_turn_75 ?_
      refine aw_iload hK 0 rfl dX7_turn_76 ?_
      refine aw_cs hK (as := [q_i y16]) (trp_X7_toOf y16 _) gX7_turn_X7_toOf rfl (na := 1) (by decide +kernel) rfl ⟨by decide, by decide⟩ (Nat.le_of_ble_eq_true rfl) (Nat.le_of_ble_eq_true rfl) dX7_turn_78 ?_
      obtain ⟨m19, h18, hF⟩ := calv_some hF
      refine aw_cv hK 1 (as := [q_i (P_X7_fromOf y16), q_i (P_X7_lowerOf y16), q_i (P_X7_upperOf y16), q_i (m ((a2 + 1) + 2) (ix x3)), q_i (P_X7_toOf y16)]) (tr_X1_addArc h18) gX7_turn_X1_addArc rfl rfl rfl (by decide) (na := 5) (by decide +kernel) rfl ⟨by decide, by decide⟩ (Nat.le_of_ble_eq_true rfl) (Nat.le_of_ble_eq_true rfl) dX7_turn_81 ?_
      obtain ⟨y20, hy20, hF⟩ := bnd_some hF
      refine aw_iinc hK (cz := 1) 3 [(3, q_i y20), (4, q_i y16), (0, q_r 0), (2, q_r a2)] (by decide) rfl rfl hy20 rfl dX7_turn_84 ?_
      refine aw_goto hK 26 rfl dX7_turn_87 ?_
      refine aw_sub [2, 3, 0] (lv' := [(0, q_r 0), (2, q_r a2), (3, q_i y20)]) rfl ?_
      exact hrec_26 hk2 hF
def F_X7_turn (N : Nat) (m : Mem) (x1 : Int32) : Option ((Int32 ⊕ Nat) × Mem) :=
  calx (F_X7_needMachine N m x1) fun r3 m2 =>
  gd (inb x1 (alen 2)) <|
  bnd (200 + 4 * ix x1) fun q6 =>
  calv (F_X1_begin N m2 (m2 q6 1) (0 : Int32)) fun m8 =>
  L_X7_turn_26 N N m8 q6 (0 : Int32)
set_option maxRecDepth 100000 in
set_option maxHeartbeats 4000000 in
theorem trX_X7_turn {N : Nat} {m m' : Mem} {res : Int32 ⊕ Nat} {x1 : Int32} (hF : F_X7_turn N m x1 = some (res, m')) : TrX yX7_turn wsX7_turn 7 114 2 [q_r 0, q_i x1] m (xo true res) m' := by
  refine trX_of (bytes := cX7_turn) (maxL := 5) (ret := (some .int)) (by decide) rfl (Nat.le_of_ble_eq_true rfl) (fun K hK hR => ?_)
  have hK : KOK K cX7_turn 5 RX7 wsX7_turn 7 2 114 := hK
  show AW K 0 0 [(0, q_r 0), (1, q_i x1)] [] m
  unfold F_X7_turn at hF
  refine aw_aload_n hK 0 rfl dX7_turn_0 ?_
  refine aw_iload_n hK 1 rfl dX7_turn_1 ?_
  rcases calx_some hF with ⟨r3, m2, h1, hF⟩ | ⟨x_4, m2, h1, hF⟩
  · refine aw_cvXr hK (kxb hR) 7 (as := [q_i x1]) (trX_X7_needMachine h1) gX7_turn_X7_needMachine rfl rfl rfl (by decide) (na := 1) (by decide +kernel) rfl ⟨by decide, by decide⟩ (Nat.le_of_ble_eq_true rfl) (Nat.le_of_ble_eq_true rfl) dX7_turn_2 ?_
    refine aw_aload_n hK 0 rfl dX7_turn_5 ?_
    refine gf_7_2 hK rfl (2) rfl (List.mem_of_getElem? (i := 1) rfl) dX7_turn_6 ?_
    refine aw_iload_n hK 1 rfl dX7_turn_9 ?_
    obtain ⟨g5, hF⟩ := gd_some hF
    refine aw_aald hK rfl g5 dX7_turn_10 ?_
    obtain ⟨q6, hq6, hF⟩ := bnd_some hF
    refine aw_nr hq6 ?_
    refine aw_astore_n hK [(2, q_r q6), (0, q_r 0), (1, q_i x1)] (by decide) rfl dX7_turn_11 ?_
    refine aw_aload_n hK 1 rfl dX7_turn_12 ?_
    refine gf_7_4 hK rfl (3) rfl (List.mem_of_getElem? (i := 2) rfl) dX7_turn_13 ?_
    refine aw_aload_n hK 0 rfl dX7_turn_16 ?_
    refine gf_3_1 hK (hq6 ▸ (kMi g5)) (List.mem_of_getElem? (i := 3) rfl) dX7_turn_17 ?_
    refine aw_iconst hK (0) rfl dX7_turn_20 ?_
    obtain ⟨m8, h7, hF⟩ := calv_some hF
    refine aw_cv hK 1 (as := [q_i (m2 q6 1), q_i (0 : Int32)]) (tr_X1_begin h7) gX7_turn_X1_begin rfl rfl rfl (by decide) (na := 2) (by decide +kernel) rfl ⟨by decide, by decide⟩ (Nat.le_of_ble_eq_true rfl) (Nat.le_of_ble_eq_true rfl) dX7_turn_21 ?_
    refine aw_iconst hK (0) rfl dX7_turn_24 ?_
    refine aw_istore_n hK [(3, q_i (0 : Int32)), (2, q_r q6), (0, q_r 0), (1, q_i x1)] (by decide) rfl dX7_turn_25 ?_
    refine aw_sub [2, 1, 0] (lv' := [(0, q_r 0), (2, q_r q6), (3, q_i (0 : Int32))]) rfl ?_
    exact lp_X7_turn_26 hK hR _ (hq6 ▸ (kMi g5)) hF
  · obtain ⟨rfl, rfl⟩ := Prod.mk.inj hF
    exact aw_cvXx hK hR 7 (as := [q_i x1]) (trX_X7_needMachine h1) gX7_turn_X7_needMachine rfl rfl rfl (by decide) (na := 1) (by decide +kernel) rfl ⟨by decide, by decide⟩ (Nat.le_of_ble_eq_true rfl) (Nat.le_of_ble_eq_true rfl) dX7_turn_2
def F_X7_compose (N : Nat) (m : Mem) (x1 : Int32) (x2 : Int32) : Option ((Int32 ⊕ Nat) × Mem) :=
  calx (F_X7_needMachine N m x1) fun r3 m2 =>
  calx (F_X7_needMachine N m2 x2) fun r7 m6 =>
  gd (inb x1 (alen 2)) <|
  bnd (200 + 4 * ix x1) fun q10 =>
  gd (inb x2 (alen 2)) <|
  bnd (200 + 4 * ix x2) fun q12 =>
  calv (F_X1_begin N m6 ((m6 q10 1) * (m6 q12 1)) (0 : Int32)) fun m14 =>
  cal (F_X7_addMeetings N m14 q10 q12) fun r17 m16 =>
  if r17 = (0 : Int32) then (
    some (.inr 1, m16)
  ) else (
    calv (F_X7_addMovesOfOne N m16 q10 (m16 q12 1)) fun m19 =>
    calv (F_X7_addMovesOfOther N m19 q12 (m19 q10 1)) fun m21 =>
    calv (F_X7_addEndsOfBoth N m21 q10 q12) fun m23 =>
    calx (F_X7_keepDraft N m23) fun r26 m25 =>
    some (.inl r26, m25)
  )
set_option maxRecDepth 100000 in
set_option maxHeartbeats 4000000 in
theorem trX_X7_compose {N : Nat} {m m' : Mem} {res : Int32 ⊕ Nat} {x1 : Int32} {x2 : Int32} (hF : F_X7_compose N m x1 x2 = some (res, m')) : TrX yX7_compose wsX7_compose 7 114 3 [q_r 0, q_i x1, q_i x2] m (xo true res) m' := by
  refine trX_of (bytes := cX7_compose) (maxL := 5) (ret := (some .int)) (by decide) rfl (Nat.le_of_ble_eq_true rfl) (fun K hK hR => ?_)
  have hK : KOK K cX7_compose 5 RX7 wsX7_compose 7 3 114 := hK
  show AW K 0 0 [(0, q_r 0), (1, q_i x1), (2, q_i x2)] [] m
  unfold F_X7_compose at hF
  refine aw_aload_n hK 0 rfl dX7_compose_0 ?_
  refine aw_iload_n hK 1 rfl dX7_compose_1 ?_
  rcases calx_some hF with ⟨r3, m2, h1, hF⟩ | ⟨x_4, m2, h1, hF⟩
  · refine aw_cvXr hK (kxb hR) 7 (as := [q_i x1]) (trX_X7_needMachine h1) gX7_compose_X7_needMachine rfl rfl rfl (by decide) (na := 1) (by decide +kernel) rfl ⟨by decide, by decide⟩ (Nat.le_of_ble_eq_true rfl) (Nat.le_of_ble_eq_true rfl) dX7_compose_2 ?_
    refine aw_aload_n hK 0 rfl dX7_compose_5 ?_
    refine aw_iload_n hK 2 rfl dX7_compose_6 ?_
    rcases calx_some hF with ⟨r7, m6, h5, hF⟩ | ⟨x_8, m6, h5, hF⟩
    · refine aw_cvXr hK (kxb hR) 7 (as := [q_i x2]) (trX_X7_needMachine h5) gX7_compose_X7_needMachine rfl rfl rfl (by decide) (na := 1) (by decide +kernel) rfl ⟨by decide, by decide⟩ (Nat.le_of_ble_eq_true rfl) (Nat.le_of_ble_eq_true rfl) dX7_compose_7 ?_
      refine aw_aload_n hK 0 rfl dX7_compose_10 ?_
      refine gf_7_2 hK rfl (2) rfl (List.mem_of_getElem? (i := 3) rfl) dX7_compose_11 ?_
      refine aw_iload_n hK 1 rfl dX7_compose_14 ?_
      obtain ⟨g9, hF⟩ := gd_some hF
      refine aw_aald hK rfl g9 dX7_compose_15 ?_
      obtain ⟨q10, hq10, hF⟩ := bnd_some hF
      refine aw_nr hq10 ?_
      refine aw_astore_n hK [(3, q_r q10), (0, q_r 0), (1, q_i x1), (2, q_i x2)] (by decide) rfl dX7_compose_16 ?_
      refine aw_aload_n hK 1 rfl dX7_compose_17 ?_
      refine gf_7_2 hK rfl (2) rfl (List.mem_of_getElem? (i := 3) rfl) dX7_compose_18 ?_
      refine aw_iload_n hK 3 rfl dX7_compose_21 ?_
      obtain ⟨g11, hF⟩ := gd_some hF
      refine aw_aald hK rfl g11 dX7_compose_22 ?_
      obtain ⟨q12, hq12, hF⟩ := bnd_some hF
      refine aw_nr hq12 ?_
      refine aw_astore hK [(4, q_r q12), (3, q_r q10), (0, q_r 0), (1, q_i x1), (2, q_i x2)] (by decide) rfl dX7_compose_23 ?_
      refine aw_aload_n hK 2 rfl dX7_compose_25 ?_
      refine gf_7_4 hK rfl (3) rfl (List.mem_of_getElem? (i := 4) rfl) dX7_compose_26 ?_
      refine aw_aload_n hK 1 rfl dX7_compose_29 ?_
      refine gf_3_1 hK (hq10 ▸ (kMi g9)) (List.mem_of_getElem? (i := 5) rfl) dX7_compose_30 ?_
      refine aw_aload hK 0 rfl dX7_compose_33 ?_
      refine gf_3_1 hK (hq12 ▸ (kMi g11)) (List.mem_of_getElem? (i := 5) rfl) dX7_compose_35 ?_
      refine aw_imul hK dX7_compose_38 ?_
      refine aw_iconst hK (0) rfl dX7_compose_39 ?_
      obtain ⟨m14, h13, hF⟩ := calv_some hF
      refine aw_cv hK 1 (as := [q_i ((m6 q10 1) * (m6 q12 1)), q_i (0 : Int32)]) (tr_X1_begin h13) gX7_compose_X1_begin rfl rfl rfl (by decide) (na := 2) (by decide +kernel) rfl ⟨by decide, by decide⟩ (Nat.le_of_ble_eq_true rfl) (Nat.le_of_ble_eq_true rfl) dX7_compose_40 ?_
      refine aw_aload_n hK 2 rfl dX7_compose_43 ?_
      refine aw_aload_n hK 1 rfl dX7_compose_44 ?_
      refine aw_aload hK 0 rfl dX7_compose_45 ?_
      obtain ⟨r17, m16, h15, hF⟩ := cal_some hF
      refine aw_cv hK 7 (as := [q_r q10, q_r q12]) (tr_X7_addMeetings (hq10 ▸ (kMi g9)) (hq12 ▸ (kMi g11)) h15) gX7_compose_X7_addMeetings rfl rfl rfl (by decide) (na := 2) (by decide +kernel) rfl ⟨by decide, by decide⟩ (Nat.le_of_ble_eq_true rfl) (Nat.le_of_ble_eq_true rfl) dX7_compose_47 ?_
      refine aw_if_ne hK 63 rfl dX7_compose_50 (fun hc => ?_) (fun hc => ?_)
      · have hF := if_f hF hc
        refine aw_aload_n hK 2 rfl dX7_compose_63 ?_
        refine aw_aload_n hK 1 rfl dX7_compose_64 ?_
        refine aw_aload hK 0 rfl dX7_compose_65 ?_
        refine gf_3_1 hK (hq12 ▸ (kMi g11)) (List.mem_of_getElem? (i := 5) rfl) dX7_compose_67 ?_
        obtain ⟨m19, h18, hF⟩ := calv_some hF
        refine aw_cv hK 7 (as := [q_r q10, q_i (m16 q12 1)]) (tr_X7_addMovesOfOne (hq10 ▸ (kMi g9)) h18) gX7_compose_X7_addMovesOfOne rfl rfl rfl (by decide) (na := 2) (by decide +kernel) rfl ⟨by decide, by decide⟩ (Nat.le_of_ble_eq_true rfl) (Nat.le_of_ble_eq_true rfl) dX7_compose_70 ?_
        refine aw_aload_n hK 2 rfl dX7_compose_73 ?_
        refine aw_aload hK 0 rfl dX7_compose_74 ?_
        refine aw_aload_n hK 1 rfl dX7_compose_76 ?_
        refine gf_3_1 hK (hq10 ▸ (kMi g9)) (List.mem_of_getElem? (i := 5) rfl) dX7_compose_77 ?_
        obtain ⟨m21, h20, hF⟩ := calv_some hF
        refine aw_cv hK 7 (as := [q_r q12, q_i (m19 q10 1)]) (tr_X7_addMovesOfOther (hq12 ▸ (kMi g11)) h20) gX7_compose_X7_addMovesOfOther rfl rfl rfl (by decide) (na := 2) (by decide +kernel) rfl ⟨by decide, by decide⟩ (Nat.le_of_ble_eq_true rfl) (Nat.le_of_ble_eq_true rfl) dX7_compose_80 ?_
        refine aw_aload_n hK 2 rfl dX7_compose_83 ?_
        refine aw_aload_n hK 1 rfl dX7_compose_84 ?_
        refine aw_aload hK 0 rfl dX7_compose_85 ?_
        obtain ⟨m23, h22, hF⟩ := calv_some hF
        refine aw_cv hK 7 (as := [q_r q10, q_r q12]) (tr_X7_addEndsOfBoth (hq10 ▸ (kMi g9)) (hq12 ▸ (kMi g11)) h22) gX7_compose_X7_addEndsOfBoth rfl rfl rfl (by decide) (na := 2) (by decide +kernel) rfl ⟨by decide, by decide⟩ (Nat.le_of_ble_eq_true rfl) (Nat.le_of_ble_eq_true rfl) dX7_compose_87 ?_
        refine aw_aload_n hK 2 rfl dX7_compose_90 ?_
        rcases calx_some hF with ⟨r26, m25, h24, hF⟩ | ⟨x_27, m25, h24, hF⟩
        · refine aw_cvXr hK (kxb hR) 7 (as := []) (trX_X7_keepDraft h24) gX7_compose_X7_keepDraft rfl rfl rfl (by decide) (na := 0) (by decide +kernel) rfl ⟨by decide, by decide⟩ (Nat.le_of_ble_eq_true rfl) (Nat.le_of_ble_eq_true rfl) dX7_compose_91 ?_
          obtain ⟨rfl, rfl⟩ := so_inj hF
          exact aw_iretX hK hR rfl (Nat.le_of_ble_eq_true rfl) dX7_compose_94
        · obtain ⟨rfl, rfl⟩ := Prod.mk.inj hF
          exact aw_cvXx hK hR 7 (as := []) (trX_X7_keepDraft h24) gX7_compose_X7_keepDraft rfl rfl rfl (by decide) (na := 0) (by decide +kernel) rfl ⟨by decide, by decide⟩ (Nat.le_of_ble_eq_true rfl) (Nat.le_of_ble_eq_true rfl) dX7_compose_91
      · have hF := if_t hF hc
        obtain ⟨rfl, rfl⟩ := so_inj hF
        exact aw_throw (ik := 66) (ic := 70) (x := 1) hK hR (by decide) (List.mem_of_getElem? (i := 1) rfl) (List.mem_of_getElem? (i := 2) rfl) (List.mem_of_getElem? (i := 4) rfl) (by decide +kernel) (by decide +kernel) (by decide +kernel) (by decide +kernel) ⟨by decide, by decide⟩ (Nat.le_of_ble_eq_true rfl) (Nat.le_of_ble_eq_true rfl) dX7_compose_53 dX7_compose_56 dX7_compose_57 dX7_compose_59 dX7_compose_62
    · obtain ⟨rfl, rfl⟩ := Prod.mk.inj hF
      exact aw_cvXx hK hR 7 (as := [q_i x2]) (trX_X7_needMachine h5) gX7_compose_X7_needMachine rfl rfl rfl (by decide) (na := 1) (by decide +kernel) rfl ⟨by decide, by decide⟩ (Nat.le_of_ble_eq_true rfl) (Nat.le_of_ble_eq_true rfl) dX7_compose_7
  · obtain ⟨rfl, rfl⟩ := Prod.mk.inj hF
    exact aw_cvXx hK hR 7 (as := [q_i x1]) (trX_X7_needMachine h1) gX7_compose_X7_needMachine rfl rfl rfl (by decide) (na := 1) (by decide +kernel) rfl ⟨by decide, by decide⟩ (Nat.le_of_ble_eq_true rfl) (Nat.le_of_ble_eq_true rfl) dX7_compose_2
def B_X7_side_68 (N : Nat) (rec_27 : Mem → Int32 → Nat → Int32 → Option ((Int32 ⊕ Nat) × Mem)) (m : Mem) (x2 : Int32) (a3 : Nat) (x4 : Int32) (x5 : Int32) (s0 : Int32) : Option ((Int32 ⊕ Nat) × Mem) :=
  calv (F_X1_addArc N m (P_X7_fromOf x5) s0 s0 (0 : Int32) (P_X7_toOf x5)) fun m18 =>
  bnd (x4 + (1 : Int32)) fun y19 =>
  rec_27 m18 x2 a3 y19
set_option maxRecDepth 100000 in
set_option maxHeartbeats 4000000 in
theorem bk_X7_side_68 {N : Nat} {K : KT} {m' : Mem} {rec_27 : Mem → Int32 → Nat → Int32 → Option ((Int32 ⊕ Nat) × Mem)} {res : Int32 ⊕ Nat} (hK : KOK K cX7_side 7 RX7 wsX7_side 7 2 114) (hR : KX K (some .int) (xo true res) m' 2) (hrec_27 : ∀ {m : Mem} {x2 : Int32} {a3 : Nat} {x4 : Int32} (hk3 : knd a3 = 3), rec_27 m x2 a3 x4 = some (res, m') → AW K 1 27 [(0, q_r 0), (2, q_i x2), (3, q_r a3), (4, q_i x4)] [] m) {m : Mem} {x2 : Int32} {a3 : Nat} {x4 : Int32} {x5 : Int32} {s0 : Int32} (hk3 : knd a3 = 3) (hF : B_X7_side_68 N rec_27 m x2 a3 x4 x5 s0 = some (res, m')) : AW K 1 68 [(0, q_r 0), (2, q_i x2), (3, q_r a3), (4, q_i x4), (5, q_i x5)] [q_i s0] m := by
  unfold B_X7_side_68 at hF
  refine aw_istore hK [(6, q_i s0), (0, q_r 0), (2, q_i x2), (3, q_r a3), (4, q_i x4), (5, q_i x5)] (by decide) rfl dX7_side_68 ?_
  refine aw_aload_n hK 1 rfl dX7_side_70 ?_
  refine gf_7_4 hK rfl (3) rfl (List.mem_of_getElem? (i := 2) rfl) dX7_side_71 ?_
  refine aw_iload hK 5 rfl dX7_side_74 ?_
  refine aw_cs hK (as := [q_i x5]) (trp_X7_fromOf x5 _) gX7_side_X7_fromOf rfl (na := 1) (by decide +kernel) rfl ⟨by decide, by decide⟩ (Nat.le_of_ble_eq_true rfl) (Nat.le_of_ble_eq_true rfl) dX7_side_76 ?_
  refine aw_iload hK 0 rfl dX7_side_79 ?_
  refine aw_iload hK 0 rfl dX7_side_81 ?_
  refine aw_iconst hK (0) rfl dX7_side_83 ?_
  refine aw_iload hK 5 rfl dX7_side_84 ?_
  refine aw_cs hK (as := [q_i x5]) (trp_X7_toOf x5 _) gX7_side_X7_toOf rfl (na := 1) (by decide +kernel) rfl ⟨by decide, by decide⟩ (Nat.le_of_ble_eq_true rfl) (Nat.le_of_ble_eq_true rfl) dX7_side_86 ?_
  obtain ⟨m18, h17, hF⟩ := calv_some hF
  refine aw_cv hK 1 (as := [q_i (P_X7_fromOf x5), q_i s0, q_i s0, q_i (0 : Int32), q_i (P_X7_toOf x5)]) (tr_X1_addArc h17) gX7_side_X1_addArc rfl rfl rfl (by decide) (na := 5) (by decide +kernel) rfl ⟨by decide, by decide⟩ (Nat.le_of_ble_eq_true rfl) (Nat.le_of_ble_eq_true rfl) dX7_side_89 ?_
  obtain ⟨y19, hy19, hF⟩ := bnd_some hF
  refine aw_iinc hK (cz := 1) 4 [(4, q_i y19), (6, q_i s0), (0, q_r 0), (2, q_i x2), (3, q_r a3), (5, q_i x5)] (by decide) rfl rfl hy19 rfl dX7_side_92 ?_
  refine aw_goto hK 27 rfl dX7_side_95 ?_
  refine aw_sub [2, 3, 4, 0] (lv' := [(0, q_r 0), (2, q_i x2), (3, q_r a3), (4, q_i y19)]) rfl ?_
  exact hrec_27 hk3 hF
def S_X7_side_27 (N : Nat) (rec_27 : Mem → Int32 → Nat → Int32 → Option ((Int32 ⊕ Nat) × Mem)) (m : Mem) (x2 : Int32) (a3 : Nat) (x4 : Int32) : Option ((Int32 ⊕ Nat) × Mem) :=
  if (m (a3 + 1) 2) ≤ x4 then (
    calv (F_X1_addEndsOf N m a3 (0 : Int32)) fun m10 =>
    calx (F_X7_keepDraft N m10) fun r13 m12 =>
    some (.inl r13, m12)
  ) else (
    gd (inb x4 (alen ((a3 + 1) + 1))) <|
    bnd (m ((a3 + 1) + 1) (ix x4)) fun y16 =>
    if x2 = (0 : Int32) then (
      B_X7_side_68 N rec_27 m x2 a3 x4 y16 (P_X7_lowerOf y16)
    ) else (
      B_X7_side_68 N rec_27 m x2 a3 x4 y16 (P_X7_upperOf y16)
    )
  )
def L_X7_side_27 (N : Nat) : Nat → Mem → Int32 → Nat → Int32 → Option ((Int32 ⊕ Nat) × Mem)
  | 0 => fun _ _ _ _ => none
  | f + 1 => S_X7_side_27 N (L_X7_side_27 N f)
set_option maxRecDepth 100000 in
set_option maxHeartbeats 4000000 in
theorem lp_X7_side_27 {N : Nat} {K : KT} {m' : Mem} {res : Int32 ⊕ Nat} (hK : KOK K cX7_side 7 RX7 wsX7_side 7 2 114) (hR : KX K (some .int) (xo true res) m' 2) : ∀ (f : Nat) {m : Mem} {x2 : Int32} {a3 : Nat} {x4 : Int32} (hk3 : knd a3 = 3), L_X7_side_27 N f m x2 a3 x4 = some (res, m') → AW K 1 27 [(0, q_r 0), (2, q_i x2), (3, q_r a3), (4, q_i x4)] [] m := by
  intro f
  induction f with
  | zero => intro m x2 a3 x4 hk3 hF; cases hF
  | succ f hrec_27 =>
    intro m x2 a3 x4 hk3 hF
    have hF : S_X7_side_27 N (L_X7_side_27 N f) m x2 a3 x4 = some (res, m') := hF
    unfold S_X7_side_27 at hF
    refine aw_iload hK 3 rfl dX7_side_27 ?_
    refine aw_aload_n hK 2 rfl dX7_side_29 ?_
    refine gf_3_0 hK hk3 (a3 + 1) rfl (List.mem_of_getElem? (i := 4) rfl) dX7_side_30 ?_
    refine gf_0_2 hK (kM1 hk3) (List.mem_of_getElem? (i := 5) rfl) dX7_side_33 ?_
    refine aw_icmp_ge hK 98 rfl dX7_side_36 (fun hc => ?_) (fun hc => ?_)
    · have hF := if_t hF hc
      refine aw_aload_n hK 0 rfl dX7_side_98 ?_
      refine gf_7_4 hK rfl (3) rfl (List.mem_of_getElem? (i := 2) rfl) dX7_side_99 ?_
      refine aw_aload_n hK 2 rfl dX7_side_102 ?_
      refine aw_iconst hK (0) rfl dX7_side_103 ?_
      obtain ⟨m10, h9, hF⟩ := calv_some hF
      refine aw_cv hK 1 (as := [q_r a3, q_i (0 : Int32)]) (tr_X1_addEndsOf hk3 h9) gX7_side_X1_addEndsOf rfl rfl rfl (by decide) (na := 2) (by decide +kernel) rfl ⟨by decide, by decide⟩ (Nat.le_of_ble_eq_true rfl) (Nat.le_of_ble_eq_true rfl) dX7_side_104 ?_
      refine aw_aload_n hK 0 rfl dX7_side_107 ?_
      rcases calx_some hF with ⟨r13, m12, h11, hF⟩ | ⟨x_14, m12, h11, hF⟩
      · refine aw_cvXr hK (kxb hR) 7 (as := []) (trX_X7_keepDraft h11) gX7_side_X7_keepDraft rfl rfl rfl (by decide) (na := 0) (by decide +kernel) rfl ⟨by decide, by decide⟩ (Nat.le_of_ble_eq_true rfl) (Nat.le_of_ble_eq_true rfl) dX7_side_108 ?_
        obtain ⟨rfl, rfl⟩ := so_inj hF
        exact aw_iretX hK hR rfl (Nat.le_of_ble_eq_true rfl) dX7_side_111
      · obtain ⟨rfl, rfl⟩ := Prod.mk.inj hF
        exact aw_cvXx hK hR 7 (as := []) (trX_X7_keepDraft h11) gX7_side_X7_keepDraft rfl rfl rfl (by decide) (na := 0) (by decide +kernel) rfl ⟨by decide, by decide⟩ (Nat.le_of_ble_eq_true rfl) (Nat.le_of_ble_eq_true rfl) dX7_side_108
    · have hF := if_f hF hc
      refine aw_aload_n hK 2 rfl dX7_side_39 ?_
      refine gf_3_0 hK hk3 (a3 + 1) rfl (List.mem_of_getElem? (i := 4) rfl) dX7_side_40 ?_
      refine gf_0_0 hK (kM1 hk3) ((a3 + 1) + 1) rfl (List.mem_of_getElem? (i := 6) rfl) dX7_side_43 ?_
      refine aw_iload hK 3 rfl dX7_side_46 ?_
      obtain ⟨g15, hF⟩ := gd_some hF
      refine aw_iald hK (kA1 (kM1 hk3)) g15 dX7_side_48 ?_
      obtain ⟨y16, hy16, hF⟩ := bnd_some hF
      refine aw_nm hy16 ?_
      refine aw_istore hK [(5, q_i y16), (0, q_r 0), (2, q_i x2), (3, q_r a3), (4, q_i x4)] (by decide) rfl dX7_side_49 ?_
      refine aw_iload_n hK 2 rfl dX7_side_51 ?_
      refine aw_if_eq hK 63 rfl dX7_side_52 (fun hc => ?_) (fun hc => ?_)
      · have hF := if_t hF hc
        refine aw_iload hK 0 rfl dX7_side_63 ?_
        refine aw_cs hK (as := [q_i y16]) (trp_X7_lowerOf y16 _) gX7_side_X7_lowerOf rfl (na := 1) (by decide +kernel) rfl ⟨by decide, by decide⟩ (Nat.le_of_ble_eq_true rfl) (Nat.le_of_ble_eq_true rfl) dX7_side_65 ?_
        refine aw_sub [1, 2, 3, 4, 0] (lv' := [(0, q_r 0), (2, q_i x2), (3, q_r a3), (4, q_i x4), (5, q_i y16)]) rfl ?_
        exact bk_X7_side_68 hK hR hrec_27 hk3 hF
      · have hF := if_f hF hc
        refine aw_iload hK 0 rfl dX7_side_55 ?_
        refine aw_cs hK (as := [q_i y16]) (trp_X7_upperOf y16 _) gX7_side_X7_upperOf rfl (na := 1) (by decide +kernel) rfl ⟨by decide, by decide⟩ (Nat.le_of_ble_eq_true rfl) (Nat.le_of_ble_eq_true rfl) dX7_side_57 ?_
        refine aw_goto hK 68 rfl dX7_side_60 ?_
        refine aw_sub [1, 2, 3, 4, 0] (lv' := [(0, q_r 0), (2, q_i x2), (3, q_r a3), (4, q_i x4), (5, q_i y16)]) rfl ?_
        exact bk_X7_side_68 hK hR hrec_27 hk3 hF
def F_X7_side (N : Nat) (m : Mem) (x1 : Int32) (x2 : Int32) : Option ((Int32 ⊕ Nat) × Mem) :=
  calx (F_X7_needMachine N m x1) fun r3 m2 =>
  gd (inb x1 (alen 2)) <|
  bnd (200 + 4 * ix x1) fun q6 =>
  calv (F_X1_begin N m2 (m2 q6 1) (0 : Int32)) fun m8 =>
  L_X7_side_27 N N m8 x2 q6 (0 : Int32)
set_option maxRecDepth 100000 in
set_option maxHeartbeats 4000000 in
theorem trX_X7_side {N : Nat} {m m' : Mem} {res : Int32 ⊕ Nat} {x1 : Int32} {x2 : Int32} (hF : F_X7_side N m x1 x2 = some (res, m')) : TrX yX7_side wsX7_side 7 114 2 [q_r 0, q_i x1, q_i x2] m (xo true res) m' := by
  refine trX_of (bytes := cX7_side) (maxL := 7) (ret := (some .int)) (by decide) rfl (Nat.le_of_ble_eq_true rfl) (fun K hK hR => ?_)
  have hK : KOK K cX7_side 7 RX7 wsX7_side 7 2 114 := hK
  show AW K 0 0 [(0, q_r 0), (1, q_i x1), (2, q_i x2)] [] m
  unfold F_X7_side at hF
  refine aw_aload_n hK 0 rfl dX7_side_0 ?_
  refine aw_iload_n hK 1 rfl dX7_side_1 ?_
  rcases calx_some hF with ⟨r3, m2, h1, hF⟩ | ⟨x_4, m2, h1, hF⟩
  · refine aw_cvXr hK (kxb hR) 7 (as := [q_i x1]) (trX_X7_needMachine h1) gX7_side_X7_needMachine rfl rfl rfl (by decide) (na := 1) (by decide +kernel) rfl ⟨by decide, by decide⟩ (Nat.le_of_ble_eq_true rfl) (Nat.le_of_ble_eq_true rfl) dX7_side_2 ?_
    refine aw_aload_n hK 0 rfl dX7_side_5 ?_
    refine gf_7_2 hK rfl (2) rfl (List.mem_of_getElem? (i := 1) rfl) dX7_side_6 ?_
    refine aw_iload_n hK 1 rfl dX7_side_9 ?_
    obtain ⟨g5, hF⟩ := gd_some hF
    refine aw_aald hK rfl g5 dX7_side_10 ?_
    obtain ⟨q6, hq6, hF⟩ := bnd_some hF
    refine aw_nr hq6 ?_
    refine aw_astore_n hK [(3, q_r q6), (0, q_r 0), (1, q_i x1), (2, q_i x2)] (by decide) rfl dX7_side_11 ?_
    refine aw_aload_n hK 1 rfl dX7_side_12 ?_
    refine gf_7_4 hK rfl (3) rfl (List.mem_of_getElem? (i := 2) rfl) dX7_side_13 ?_
    refine aw_aload_n hK 0 rfl dX7_side_16 ?_
    refine gf_3_1 hK (hq6 ▸ (kMi g5)) (List.mem_of_getElem? (i := 3) rfl) dX7_side_17 ?_
    refine aw_iconst hK (0) rfl dX7_side_20 ?_
    obtain ⟨m8, h7, hF⟩ := calv_some hF
    refine aw_cv hK 1 (as := [q_i (m2 q6 1), q_i (0 : Int32)]) (tr_X1_begin h7) gX7_side_X1_begin rfl rfl rfl (by decide) (na := 2) (by decide +kernel) rfl ⟨by decide, by decide⟩ (Nat.le_of_ble_eq_true rfl) (Nat.le_of_ble_eq_true rfl) dX7_side_21 ?_
    refine aw_iconst hK (0) rfl dX7_side_24 ?_
    refine aw_istore hK [(4, q_i (0 : Int32)), (3, q_r q6), (0, q_r 0), (1, q_i x1), (2, q_i x2)] (by decide) rfl dX7_side_25 ?_
    refine aw_sub [2, 4, 1, 0] (lv' := [(0, q_r 0), (2, q_i x2), (3, q_r q6), (4, q_i (0 : Int32))]) rfl ?_
    exact lp_X7_side_27 hK hR _ (hq6 ▸ (kMi g5)) hF
  · obtain ⟨rfl, rfl⟩ := Prod.mk.inj hF
    exact aw_cvXx hK hR 7 (as := [q_i x1]) (trX_X7_needMachine h1) gX7_side_X7_needMachine rfl rfl rfl (by decide) (na := 1) (by decide +kernel) rfl ⟨by decide, by decide⟩ (Nat.le_of_ble_eq_true rfl) (Nat.le_of_ble_eq_true rfl) dX7_side_2
def F_X7_needPlain (N : Nat) (m : Mem) (x1 : Int32) : Option ((Int32 ⊕ Nat) × Mem) :=
  gd (inb x1 (alen 2)) <|
  cal (F_X3_hasPlainArcsAlone N m (200 + 4 * ix x1)) fun r4 m3 =>
  if r4 = (0 : Int32) then (
    some (.inr 1, m3)
  ) else (
    some (.inl 0, m3)
  )
set_option maxRecDepth 100000 in
set_option maxHeartbeats 4000000 in
theorem trX_X7_needPlain {N : Nat} {m m' : Mem} {res : Int32 ⊕ Nat} {x1 : Int32} (hF : F_X7_needPlain N m x1 = some (res, m')) : TrX yX7_needPlain wsX7_needPlain 6 90 1 [q_r 0, q_i x1] m (xo false res) m' := by
  refine trX_of (bytes := cX7_needPlain) (maxL := 2) (ret := none) (by decide) rfl (Nat.le_of_ble_eq_true rfl) (fun K hK hR => ?_)
  have hK : KOK K cX7_needPlain 2 RX7 wsX7_needPlain 6 1 90 := hK
  show AW K 0 0 [(0, q_r 0), (1, q_i x1)] [] m
  unfold F_X7_needPlain at hF
  refine aw_aload_n hK 0 rfl dX7_needPlain_0 ?_
  refine gf_7_2 hK rfl (2) rfl (List.mem_of_getElem? (i := 3) rfl) dX7_needPlain_1 ?_
  refine aw_iload_n hK 1 rfl dX7_needPlain_4 ?_
  obtain ⟨g1, hF⟩ := gd_some hF
  refine aw_aald hK rfl g1 dX7_needPlain_5 ?_
  obtain ⟨r4, m3, h2, hF⟩ := cal_some hF
  refine aw_cv hK 3 (as := []) (tr_X3_hasPlainArcsAlone (kMi g1) h2) gX7_needPlain_X3_hasPlainArcsAlone rfl rfl (kMi g1) (by decide) (na := 0) (by decide +kernel) rfl ⟨by decide, by decide⟩ (Nat.zero_le _) (Nat.le_of_ble_eq_true rfl) dX7_needPlain_6 ?_
  refine aw_if_ne hK 23 rfl dX7_needPlain_9 (fun hc => ?_) (fun hc => ?_)
  · have hF := if_f hF hc
    obtain ⟨rfl, rfl⟩ := so_inj hF
    exact aw_vretX hK hR (Nat.le_of_ble_eq_true rfl) dX7_needPlain_23
  · have hF := if_t hF hc
    obtain ⟨rfl, rfl⟩ := so_inj hF
    exact aw_throwW (ik := 66) (ic := 70) (x := 1) hK hR (by decide) (List.mem_of_getElem? (i := 1) rfl) (List.mem_of_getElem? (i := 2) rfl) (List.mem_of_getElem? (i := 17) rfl) (by decide +kernel) (by decide +kernel) (by decide +kernel) (by decide +kernel) ⟨by decide, by decide⟩ (Nat.le_of_ble_eq_true rfl) (Nat.le_of_ble_eq_true rfl) dX7_needPlain_12 dX7_needPlain_15 dX7_needPlain_16 dX7_needPlain_19 dX7_needPlain_22
def F_X7_needSets (N : Nat) (m : Mem) (x0 : Int32) : Option ((Int32 ⊕ Nat) × Mem) :=
  if x0 = (0 : Int32) then (
    some (.inr 1, m)
  ) else (
    some (.inl 0, m)
  )
set_option maxRecDepth 100000 in
set_option maxHeartbeats 4000000 in
theorem trX_X7_needSets {N : Nat} {m m' : Mem} {res : Int32 ⊕ Nat} {x0 : Int32} (hF : F_X7_needSets N m x0 = some (res, m')) : TrX yX7_needSets wsX7_needSets 6 90 1 [q_i x0] m (xo false res) m' := by
  refine trX_of (bytes := cX7_needSets) (maxL := 1) (ret := none) (by decide) rfl (Nat.le_of_ble_eq_true rfl) (fun K hK hR => ?_)
  have hK : KOK K cX7_needSets 1 RX7 wsX7_needSets 6 1 90 := hK
  show AW K 0 0 [(0, q_i x0)] [] m
  unfold F_X7_needSets at hF
  refine aw_iload_n hK 0 rfl dX7_needSets_0 ?_
  refine aw_if_ne hK 15 rfl dX7_needSets_1 (fun hc => ?_) (fun hc => ?_)
  · have hF := if_f hF hc
    obtain ⟨rfl, rfl⟩ := so_inj hF
    exact aw_vretX hK hR (Nat.le_of_ble_eq_true rfl) dX7_needSets_15
  · have hF := if_t hF hc
    obtain ⟨rfl, rfl⟩ := so_inj hF
    exact aw_throwW (ik := 66) (ic := 70) (x := 1) hK hR (by decide) (List.mem_of_getElem? (i := 1) rfl) (List.mem_of_getElem? (i := 2) rfl) (List.mem_of_getElem? (i := 14) rfl) (by decide +kernel) (by decide +kernel) (by decide +kernel) (by decide +kernel) ⟨by decide, by decide⟩ (Nat.le_of_ble_eq_true rfl) (Nat.le_of_ble_eq_true rfl) dX7_needSets_4 dX7_needSets_7 dX7_needSets_8 dX7_needSets_11 dX7_needSets_14
def F_X7_needStates (N : Nat) (m : Mem) (x0 : Int32) : Option ((Int32 ⊕ Nat) × Mem) :=
  if x0 = (0 : Int32) then (
    some (.inr 1, m)
  ) else (
    some (.inl 0, m)
  )
set_option maxRecDepth 100000 in
set_option maxHeartbeats 4000000 in
theorem trX_X7_needStates {N : Nat} {m m' : Mem} {res : Int32 ⊕ Nat} {x0 : Int32} (hF : F_X7_needStates N m x0 = some (res, m')) : TrX yX7_needStates wsX7_needStates 6 90 1 [q_i x0] m (xo false res) m' := by
  refine trX_of (bytes := cX7_needStates) (maxL := 1) (ret := none) (by decide) rfl (Nat.le_of_ble_eq_true rfl) (fun K hK hR => ?_)
  have hK : KOK K cX7_needStates 1 RX7 wsX7_needStates 6 1 90 := hK
  show AW K 0 0 [(0, q_i x0)] [] m
  unfold F_X7_needStates at hF
  refine aw_iload_n hK 0 rfl dX7_needStates_0 ?_
  refine aw_if_ne hK 15 rfl dX7_needStates_1 (fun hc => ?_) (fun hc => ?_)
  · have hF := if_f hF hc
    obtain ⟨rfl, rfl⟩ := so_inj hF
    exact aw_vretX hK hR (Nat.le_of_ble_eq_true rfl) dX7_needStates_15
  · have hF := if_t hF hc
    obtain ⟨rfl, rfl⟩ := so_inj hF
    exact aw_throwW (ik := 66) (ic := 70) (x := 1) hK hR (by decide) (List.mem_of_getElem? (i := 1) rfl) (List.mem_of_getElem? (i := 2) rfl) (List.mem_of_getElem? (i := 15) rfl) (by decide +kernel) (by decide +kernel) (by decide +kernel) (by decide +kernel) ⟨by decide, by decide⟩ (Nat.le_of_ble_eq_true rfl) (Nat.le_of_ble_eq_true rfl) dX7_needStates_4 dX7_needStates_7 dX7_needStates_8 dX7_needStates_11 dX7_needStates_14
def F_X7_least (N : Nat) (m : Mem) (x1 : Int32) : Option ((Int32 ⊕ Nat) × Mem) :=
  calx (F_X7_needMachine N m x1) fun r3 m2 =>
  calx (F_X7_needPlain N m2 x1) fun r7 m6 =>
  gd (inb x1 (alen 2)) <|
  cal (F_X5_exploreOne N m6 (200 + 4 * ix x1)) fun r12 m11 =>
  calx (F_X7_needSets N m11 r12) fun r15 m14 =>
  cal (F_X5_draw N m14) fun r19 m18 =>
  calx (F_X7_needStates N m18 r19) fun r22 m21 =>
  calx (F_X7_keepDraft N m21) fun r26 m25 =>
  some (.inl r26, m25)
set_option maxRecDepth 100000 in
set_option maxHeartbeats 4000000 in
theorem trX_X7_least {N : Nat} {m m' : Mem} {res : Int32 ⊕ Nat} {x1 : Int32} (hF : F_X7_least N m x1 = some (res, m')) : TrX yX7_least wsX7_least 7 138 5 [q_r 0, q_i x1] m (xo true res) m' := by
  refine trX_of (bytes := cX7_least) (maxL := 2) (ret := (some .int)) (by decide) rfl (Nat.le_of_ble_eq_true rfl) (fun K hK hR => ?_)
  have hK : KOK K cX7_least 2 RX7 wsX7_least 7 5 138 := hK
  show AW K 0 0 [(0, q_r 0), (1, q_i x1)] [] m
  unfold F_X7_least at hF
  refine aw_aload_n hK 0 rfl dX7_least_0 ?_
  refine aw_iload_n hK 1 rfl dX7_least_1 ?_
  rcases calx_some hF with ⟨r3, m2, h1, hF⟩ | ⟨x_4, m2, h1, hF⟩
  · refine aw_cvXr hK (kxb hR) 7 (as := [q_i x1]) (trX_X7_needMachine h1) gX7_least_X7_needMachine rfl rfl rfl (by decide) (na := 1) (by decide +kernel) rfl ⟨by decide, by decide⟩ (Nat.le_of_ble_eq_true rfl) (Nat.le_of_ble_eq_true rfl) dX7_least_2 ?_
    refine aw_aload_n hK 0 rfl dX7_least_5 ?_
    refine aw_iload_n hK 1 rfl dX7_least_6 ?_
    rcases calx_some hF with ⟨r7, m6, h5, hF⟩ | ⟨x_8, m6, h5, hF⟩
    · refine aw_cvXr hK (kxb hR) 7 (as := [q_i x1]) (trX_X7_needPlain h5) gX7_least_X7_needPlain rfl rfl rfl (by decide) (na := 1) (by decide +kernel) rfl ⟨by decide, by decide⟩ (Nat.le_of_ble_eq_true rfl) (Nat.le_of_ble_eq_true rfl) dX7_least_7 ?_
      refine aw_aload_n hK 0 rfl dX7_least_10 ?_
      refine gf_7_5 hK rfl (20) rfl (List.mem_of_getElem? (i := 1) rfl) dX7_least_11 ?_
      refine aw_aload_n hK 0 rfl dX7_least_14 ?_
      refine gf_7_2 hK rfl (2) rfl (List.mem_of_getElem? (i := 2) rfl) dX7_least_15 ?_
      refine aw_iload_n hK 1 rfl dX7_least_18 ?_
      obtain ⟨g9, hF⟩ := gd_some hF
      refine aw_aald hK rfl g9 dX7_least_19 ?_
      obtain ⟨r12, m11, h10, hF⟩ := cal_some hF
      refine aw_cv hK 5 (as := [q_r (200 + 4 * ix x1)]) (tr_X5_exploreOne (kMi g9) h10) gX7_least_X5_exploreOne rfl rfl rfl (by decide) (na := 1) (by decide +kernel) rfl ⟨by decide, by decide⟩ (Nat.le_of_ble_eq_true rfl) (Nat.le_of_ble_eq_true rfl) dX7_least_20 ?_
      rcases calx_some hF with ⟨r15, m14, h13, hF⟩ | ⟨x_16, m14, h13, hF⟩
      · refine aw_csXr hK (kxb hR) (as := [q_i r12]) (trX_X7_needSets h13) gX7_least_X7_needSets rfl (na := 1) (by decide +kernel) rfl ⟨by decide, by decide⟩ (Nat.le_of_ble_eq_true rfl) (Nat.le_of_ble_eq_true rfl) dX7_least_23 ?_
        refine aw_aload_n hK 0 rfl dX7_least_26 ?_
        refine gf_7_5 hK rfl (20) rfl (List.mem_of_getElem? (i := 1) rfl) dX7_least_27 ?_
        refine aw_aload_n hK 0 rfl dX7_least_30 ?_
        refine gf_7_4 hK rfl (3) rfl (List.mem_of_getElem? (i := 3) rfl) dX7_least_31 ?_
        obtain ⟨r19, m18, h17, hF⟩ := cal_some hF
        refine aw_cv hK 5 (as := [q_r 3]) (tr_X5_draw h17) gX7_least_X5_draw rfl rfl rfl (by decide) (na := 1) (by decide +kernel) rfl ⟨by decide, by decide⟩ (Nat.le_of_ble_eq_true rfl) (Nat.le_of_ble_eq_true rfl) dX7_least_34 ?_
        rcases calx_some hF with ⟨r22, m21, h20, hF⟩ | ⟨x_23, m21, h20, hF⟩
        · refine aw_csXr hK (kxb hR) (as := [q_i r19]) (trX_X7_needStates h20) gX7_least_X7_needStates rfl (na := 1) (by decide +kernel) rfl ⟨by decide, by decide⟩ (Nat.le_of_ble_eq_true rfl) (Nat.le_of_ble_eq_true rfl) dX7_least_37 ?_
          refine aw_aload_n hK 0 rfl dX7_least_40 ?_
          rcases calx_some hF with ⟨r26, m25, h24, hF⟩ | ⟨x_27, m25, h24, hF⟩
          · refine aw_cvXr hK (kxb hR) 7 (as := []) (trX_X7_keepDraft h24) gX7_least_X7_keepDraft rfl rfl rfl (by decide) (na := 0) (by decide +kernel) rfl ⟨by decide, by decide⟩ (Nat.le_of_ble_eq_true rfl) (Nat.le_of_ble_eq_true rfl) dX7_least_41 ?_
            obtain ⟨rfl, rfl⟩ := so_inj hF
            exact aw_iretX hK hR rfl (Nat.le_of_ble_eq_true rfl) dX7_least_44
          · obtain ⟨rfl, rfl⟩ := Prod.mk.inj hF
            exact aw_cvXx hK hR 7 (as := []) (trX_X7_keepDraft h24) gX7_least_X7_keepDraft rfl rfl rfl (by decide) (na := 0) (by decide +kernel) rfl ⟨by decide, by decide⟩ (Nat.le_of_ble_eq_true rfl) (Nat.le_of_ble_eq_true rfl) dX7_least_41
        · obtain ⟨rfl, rfl⟩ := Prod.mk.inj hF
          exact aw_csXx hK hR (as := [q_i r19]) (trX_X7_needStates h20) gX7_least_X7_needStates rfl (na := 1) (by decide +kernel) rfl ⟨by decide, by decide⟩ (Nat.le_of_ble_eq_true rfl) (Nat.le_of_ble_eq_true rfl) dX7_least_37
      · obtain ⟨rfl, rfl⟩ := Prod.mk.inj hF
        exact aw_csXx hK hR (as := [q_i r12]) (trX_X7_needSets h13) gX7_least_X7_needSets rfl (na := 1) (by decide +kernel) rfl ⟨by decide, by decide⟩ (Nat.le_of_ble_eq_true rfl) (Nat.le_of_ble_eq_true rfl) dX7_least_23
    · obtain ⟨rfl, rfl⟩ := Prod.mk.inj hF
      exact aw_cvXx hK hR 7 (as := [q_i x1]) (trX_X7_needPlain h5) gX7_least_X7_needPlain rfl rfl rfl (by decide) (na := 1) (by decide +kernel) rfl ⟨by decide, by decide⟩ (Nat.le_of_ble_eq_true rfl) (Nat.le_of_ble_eq_true rfl) dX7_least_7
  · obtain ⟨rfl, rfl⟩ := Prod.mk.inj hF
    exact aw_cvXx hK hR 7 (as := [q_i x1]) (trX_X7_needMachine h1) gX7_least_X7_needMachine rfl rfl rfl (by decide) (na := 1) (by decide +kernel) rfl ⟨by decide, by decide⟩ (Nat.le_of_ble_eq_true rfl) (Nat.le_of_ble_eq_true rfl) dX7_least_2
def B_X7_meet_29 (N : Nat) (m : Mem) (x1 : Int32) (x2 : Int32) (s0 : Int32) : Option ((Int32 ⊕ Nat) × Mem) :=
  gd (inb x1 (alen 2)) <|
  gd (inb x2 (alen 2)) <|
  cal (F_X5_exploreTwo N m (200 + 4 * ix x1) (200 + 4 * ix x2) s0) fun r21 m20 =>
  calx (F_X7_needSets N m20 r21) fun r24 m23 =>
  cal (F_X5_draw N m23) fun r28 m27 =>
  calx (F_X7_needStates N m27 r28) fun r31 m30 =>
  calx (F_X7_keepDraft N m30) fun r35 m34 =>
  some (.inl r35, m34)
set_option maxRecDepth 100000 in
set_option maxHeartbeats 4000000 in
theorem bk_X7_meet_29 {N : Nat} {K : KT} {m' : Mem} {res : Int32 ⊕ Nat} (hK : KOK K cX7_meet 5 RX7 wsX7_meet 7 7 138) (hR : KX K (some .int) (xo true res) m' 7) {m : Mem} {x1 : Int32} {x2 : Int32} {s0 : Int32} (hF : B_X7_meet_29 N m x1 x2 s0 = some (res, m')) : AW K 4 29 [(0, q_r 0), (1, q_i x1), (2, q_i x2)] [q_i s0] m := by
  unfold B_X7_meet_29 at hF
  refine aw_istore hK [(4, q_i s0), (0, q_r 0), (1, q_i x1), (2, q_i x2)] (by decide) rfl dX7_meet_29 ?_
  refine aw_aload_n hK 1 rfl dX7_meet_31 ?_
  refine gf_7_5 hK rfl (20) rfl (List.mem_of_getElem? (i := 1) rfl) dX7_meet_32 ?_
  refine aw_aload_n hK 1 rfl dX7_meet_35 ?_
  refine gf_7_2 hK rfl (2) rfl (List.mem_of_getElem? (i := 2) rfl) dX7_meet_36 ?_
  refine aw_iload_n hK 2 rfl dX7_meet_39 ?_
  obtain ⟨g17, hF⟩ := gd_some hF
  refine aw_aald hK rfl g17 dX7_meet_40 ?_
  refine aw_aload_n hK 1 rfl dX7_meet_41 ?_
  refine gf_7_2 hK rfl (2) rfl (List.mem_of_getElem? (i := 2) rfl) dX7_meet_42 ?_
  refine aw_iload_n hK 3 rfl dX7_meet_45 ?_
  obtain ⟨g18, hF⟩ := gd_some hF
  refine aw_aald hK rfl g18 dX7_meet_46 ?_
  refine aw_iload hK 0 rfl dX7_meet_47 ?_
  obtain ⟨r21, m20, h19, hF⟩ := cal_some hF
  refine aw_cv hK 5 (as := [q_r (200 + 4 * ix x1), q_r (200 + 4 * ix x2), q_i s0]) (tr_X5_exploreTwo (kMi g17) (kMi g18) h19) gX7_meet_X5_exploreTwo rfl rfl rfl (by decide) (na := 3) (by decide +kernel) rfl ⟨by decide, by decide⟩ (Nat.le_of_ble_eq_true rfl) (Nat.le_of_ble_eq_true rfl) dX7_meet_49 ?_
  rcases calx_some hF with ⟨r24, m23, h22, hF⟩ | ⟨x_25, m23, h22, hF⟩
  · refine aw_csXr hK (kxb hR) (as := [q_i r21]) (trX_X7_needSets h22) gX7_meet_X7_needSets rfl (na := 1) (by decide +kernel) rfl ⟨by decide, by decide⟩ (Nat.le_of_ble_eq_true rfl) (Nat.le_of_ble_eq_true rfl) dX7_meet_52 ?_
    refine aw_aload_n hK 1 rfl dX7_meet_55 ?_
    refine gf_7_5 hK rfl (20) rfl (List.mem_of_getElem? (i := 1) rfl) dX7_meet_56 ?_
    refine aw_aload_n hK 1 rfl dX7_meet_59 ?_
    refine gf_7_4 hK rfl (3) rfl (List.mem_of_getElem? (i := 3) rfl) dX7_meet_60 ?_
    obtain ⟨r28, m27, h26, hF⟩ := cal_some hF
    refine aw_cv hK 5 (as := [q_r 3]) (tr_X5_draw h26) gX7_meet_X5_draw rfl rfl rfl (by decide) (na := 1) (by decide +kernel) rfl ⟨by decide, by decide⟩ (Nat.le_of_ble_eq_true rfl) (Nat.le_of_ble_eq_true rfl) dX7_meet_63 ?_
    rcases calx_some hF with ⟨r31, m30, h29, hF⟩ | ⟨x_32, m30, h29, hF⟩
    · refine aw_csXr hK (kxb hR) (as := [q_i r28]) (trX_X7_needStates h29) gX7_meet_X7_needStates rfl (na := 1) (by decide +kernel) rfl ⟨by decide, by decide⟩ (Nat.le_of_ble_eq_true rfl) (Nat.le_of_ble_eq_true rfl) dX7_meet_66 ?_
      refine aw_aload_n hK 1 rfl dX7_meet_69 ?_
      rcases calx_some hF with ⟨r35, m34, h33, hF⟩ | ⟨x_36, m34, h33, hF⟩
      · refine aw_cvXr hK (kxb hR) 7 (as := []) (trX_X7_keepDraft h33) gX7_meet_X7_keepDraft rfl rfl rfl (by decide) (na := 0) (by decide +kernel) rfl ⟨by decide, by decide⟩ (Nat.le_of_ble_eq_true rfl) (Nat.le_of_ble_eq_true rfl) dX7_meet_70 ?_
        obtain ⟨rfl, rfl⟩ := so_inj hF
        exact aw_iretX hK hR rfl (Nat.le_of_ble_eq_true rfl) dX7_meet_73
      · obtain ⟨rfl, rfl⟩ := Prod.mk.inj hF
        exact aw_cvXx hK hR 7 (as := []) (trX_X7_keepDraft h33) gX7_meet_X7_keepDraft rfl rfl rfl (by decide) (na := 0) (by decide +kernel) rfl ⟨by decide, by decide⟩ (Nat.le_of_ble_eq_true rfl) (Nat.le_of_ble_eq_true rfl) dX7_meet_70
    · obtain ⟨rfl, rfl⟩ := Prod.mk.inj hF
      exact aw_csXx hK hR (as := [q_i r28]) (trX_X7_needStates h29) gX7_meet_X7_needStates rfl (na := 1) (by decide +kernel) rfl ⟨by decide, by decide⟩ (Nat.le_of_ble_eq_true rfl) (Nat.le_of_ble_eq_true rfl) dX7_meet_66
  · obtain ⟨rfl, rfl⟩ := Prod.mk.inj hF
    exact aw_csXx hK hR (as := [q_i r21]) (trX_X7_needSets h22) gX7_meet_X7_needSets rfl (na := 1) (by decide +kernel) rfl ⟨by decide, by decide⟩ (Nat.le_of_ble_eq_true rfl) (Nat.le_of_ble_eq_true rfl) dX7_meet_52
def F_X7_meet (N : Nat) (m : Mem) (x1 : Int32) (x2 : Int32) (x3 : Int32) : Option ((Int32 ⊕ Nat) × Mem) :=
  calx (F_X7_needMachine N m x1) fun r3 m2 =>
  calx (F_X7_needMachine N m2 x2) fun r7 m6 =>
  calx (F_X7_needPlain N m6 x1) fun r11 m10 =>
  calx (F_X7_needPlain N m10 x2) fun r15 m14 =>
  if x3 = (0 : Int32) then (
    B_X7_meet_29 N m14 x1 x2 (0 : Int32)
  ) else (
    B_X7_meet_29 N m14 x1 x2 (1 : Int32)
  )
set_option maxRecDepth 100000 in
set_option maxHeartbeats 4000000 in
theorem trX_X7_meet {N : Nat} {m m' : Mem} {res : Int32 ⊕ Nat} {x1 : Int32} {x2 : Int32} {x3 : Int32} (hF : F_X7_meet N m x1 x2 x3 = some (res, m')) : TrX yX7_meet wsX7_meet 7 138 7 [q_r 0, q_i x1, q_i x2, q_i x3] m (xo true res) m' := by
  refine trX_of (bytes := cX7_meet) (maxL := 5) (ret := (some .int)) (by decide) rfl (Nat.le_of_ble_eq_true rfl) (fun K hK hR => ?_)
  have hK : KOK K cX7_meet 5 RX7 wsX7_meet 7 7 138 := hK
  show AW K 0 0 [(0, q_r 0), (1, q_i x1), (2, q_i x2), (3, q_i x3)] [] m
  unfold F_X7_meet at hF
  refine aw_aload_n hK 0 rfl dX7_meet_0 ?_
  refine aw_iload_n hK 1 rfl dX7_meet_1 ?_
  rcases calx_some hF with ⟨r3, m2, h1, hF⟩ | ⟨x_4, m2, h1, hF⟩
  · refine aw_cvXr hK (kxb hR) 7 (as := [q_i x1]) (trX_X7_needMachine h1) gX7_meet_X7_needMachine rfl rfl rfl (by decide) (na := 1) (by decide +kernel) rfl ⟨by decide, by decide⟩ (Nat.le_of_ble_eq_true rfl) (Nat.le_of_ble_eq_true rfl) dX7_meet_2 ?_
    refine aw_aload_n hK 0 rfl dX7_meet_5 ?_
    refine aw_iload_n hK 2 rfl dX7_meet_6 ?_
    rcases calx_some hF with ⟨r7, m6, h5, hF⟩ | ⟨x_8, m6, h5, hF⟩
    · refine aw_cvXr hK (kxb hR) 7 (as := [q_i x2]) (trX_X7_needMachine h5) gX7_meet_X7_needMachine rfl rfl rfl (by decide) (na := 1) (by decide +kernel) rfl ⟨by decide, by decide⟩ (Nat.le_of_ble_eq_true rfl) (Nat.le_of_ble_eq_true rfl) dX7_meet_7 ?_
      refine aw_aload_n hK 0 rfl dX7_meet_10 ?_
      refine aw_iload_n hK 1 rfl dX7_meet_11 ?_
      rcases calx_some hF with ⟨r11, m10, h9, hF⟩ | ⟨x_12, m10, h9, hF⟩
      · refine aw_cvXr hK (kxb hR) 7 (as := [q_i x1]) (trX_X7_needPlain h9) gX7_meet_X7_needPlain rfl rfl rfl (by decide) (na := 1) (by decide +kernel) rfl ⟨by decide, by decide⟩ (Nat.le_of_ble_eq_true rfl) (Nat.le_of_ble_eq_true rfl) dX7_meet_12 ?_
        refine aw_aload_n hK 0 rfl dX7_meet_15 ?_
        refine aw_iload_n hK 2 rfl dX7_meet_16 ?_
        rcases calx_some hF with ⟨r15, m14, h13, hF⟩ | ⟨x_16, m14, h13, hF⟩
        · refine aw_cvXr hK (kxb hR) 7 (as := [q_i x2]) (trX_X7_needPlain h13) gX7_meet_X7_needPlain rfl rfl rfl (by decide) (na := 1) (by decide +kernel) rfl ⟨by decide, by decide⟩ (Nat.le_of_ble_eq_true rfl) (Nat.le_of_ble_eq_true rfl) dX7_meet_17 ?_
          refine aw_iload_n hK 3 rfl dX7_meet_20 ?_
          refine aw_if_eq hK 28 rfl dX7_meet_21 (fun hc => ?_) (fun hc => ?_)
          · have hF := if_t hF hc
            refine aw_iconst hK (0) rfl dX7_meet_28 ?_
            refine aw_sub [0, 1, 2] (lv' := [(0, q_r 0), (1, q_i x1), (2, q_i x2)]) rfl ?_
            exact bk_X7_meet_29 hK hR hF
          · have hF := if_f hF hc
            refine aw_iconst hK (1) rfl dX7_meet_24 ?_
            refine aw_goto hK 29 rfl dX7_meet_25 ?_
            refine aw_sub [0, 1, 2] (lv' := [(0, q_r 0), (1, q_i x1), (2, q_i x2)]) rfl ?_
            exact bk_X7_meet_29 hK hR hF
        · obtain ⟨rfl, rfl⟩ := Prod.mk.inj hF
          exact aw_cvXx hK hR 7 (as := [q_i x2]) (trX_X7_needPlain h13) gX7_meet_X7_needPlain rfl rfl rfl (by decide) (na := 1) (by decide +kernel) rfl ⟨by decide, by decide⟩ (Nat.le_of_ble_eq_true rfl) (Nat.le_of_ble_eq_true rfl) dX7_meet_17
      · obtain ⟨rfl, rfl⟩ := Prod.mk.inj hF
        exact aw_cvXx hK hR 7 (as := [q_i x1]) (trX_X7_needPlain h9) gX7_meet_X7_needPlain rfl rfl rfl (by decide) (na := 1) (by decide +kernel) rfl ⟨by decide, by decide⟩ (Nat.le_of_ble_eq_true rfl) (Nat.le_of_ble_eq_true rfl) dX7_meet_12
    · obtain ⟨rfl, rfl⟩ := Prod.mk.inj hF
      exact aw_cvXx hK hR 7 (as := [q_i x2]) (trX_X7_needMachine h5) gX7_meet_X7_needMachine rfl rfl rfl (by decide) (na := 1) (by decide +kernel) rfl ⟨by decide, by decide⟩ (Nat.le_of_ble_eq_true rfl) (Nat.le_of_ble_eq_true rfl) dX7_meet_7
  · obtain ⟨rfl, rfl⟩ := Prod.mk.inj hF
    exact aw_cvXx hK hR 7 (as := [q_i x1]) (trX_X7_needMachine h1) gX7_meet_X7_needMachine rfl rfl rfl (by decide) (na := 1) (by decide +kernel) rfl ⟨by decide, by decide⟩ (Nat.le_of_ble_eq_true rfl) (Nat.le_of_ble_eq_true rfl) dX7_meet_2
def B_X7_needRule_28 (N : Nat) (m : Mem) : Option ((Int32 ⊕ Nat) × Mem) :=
  some (.inr 0, m)
set_option maxRecDepth 100000 in
set_option maxHeartbeats 4000000 in
theorem bk_X7_needRule_28 {N : Nat} {K : KT} {m' : Mem} {res : Int32 ⊕ Nat} (hK : KOK K cX7_needRule 4 RX7 wsX7_needRule 6 1 90) (hR : KX K none (xo false res) m' 1) {m : Mem} (hF : B_X7_needRule_28 N m = some (res, m')) : AW K 0 28 [] [] m := by
  unfold B_X7_needRule_28 at hF
  obtain ⟨rfl, rfl⟩ := so_inj hF
  exact aw_throwW (ik := 59) (ic := 63) (x := 0) hK hR (by decide) (List.mem_of_getElem? (i := 1) rfl) (List.mem_of_getElem? (i := 2) rfl) (List.mem_of_getElem? (i := 12) rfl) (by decide +kernel) (by decide +kernel) (by decide +kernel) (by decide +kernel) ⟨by decide, by decide⟩ (Nat.le_of_ble_eq_true rfl) (Nat.le_of_ble_eq_true rfl) dX7_needRule_28 dX7_needRule_31 dX7_needRule_32 dX7_needRule_35 dX7_needRule_38
def F_X7_needRule (N : Nat) (m : Mem) (x0 : Int32) (x1 : Int32) (x2 : Int32) (x3 : Int32) : Option ((Int32 ⊕ Nat) × Mem) :=
  if (P_X7_isLetter x0) = (0 : Int32) then (
    B_X7_needRule_28 N m
  ) else (
    if (P_X7_isLetterOrEmpty x1) = (0 : Int32) then (
      B_X7_needRule_28 N m
    ) else (
      if (P_X7_isLetterOrAny x2) = (0 : Int32) then (
        B_X7_needRule_28 N m
      ) else (
        if (P_X7_isLetterOrAny x3) = (0 : Int32) then (
          B_X7_needRule_28 N m
        ) else (
          some (.inl 0, m)
        )
      )
    )
  )
set_option maxRecDepth 100000 in
set_option maxHeartbeats 4000000 in
theorem trX_X7_needRule {N : Nat} {m m' : Mem} {res : Int32 ⊕ Nat} {x0 : Int32} {x1 : Int32} {x2 : Int32} {x3 : Int32} (hF : F_X7_needRule N m x0 x1 x2 x3 = some (res, m')) : TrX yX7_needRule wsX7_needRule 6 90 1 [q_i x0, q_i x1, q_i x2, q_i x3] m (xo false res) m' := by
  refine trX_of (bytes := cX7_needRule) (maxL := 4) (ret := none) (by decide) rfl (Nat.le_of_ble_eq_true rfl) (fun K hK hR => ?_)
  have hK : KOK K cX7_needRule 4 RX7 wsX7_needRule 6 1 90 := hK
  show AW K 0 0 [(0, q_i x0), (1, q_i x1), (2, q_i x2), (3, q_i x3)] [] m
  unfold F_X7_needRule at hF
  refine aw_iload_n hK 0 rfl dX7_needRule_0 ?_
  refine aw_cs hK (as := [q_i x0]) (trp_X7_isLetter x0 _) gX7_needRule_X7_isLetter rfl (na := 1) (by decide +kernel) rfl ⟨by decide, by decide⟩ (Nat.zero_le _) (Nat.le_of_ble_eq_true rfl) dX7_needRule_1 ?_
  refine aw_if_eq hK 28 rfl dX7_needRule_4 (fun hc => ?_) (fun hc => ?_)
  · have hF := if_t hF hc
    refine aw_sub [] (lv' := []) rfl ?_
    exact bk_X7_needRule_28 hK hR hF
  · have hF := if_f hF hc
    refine aw_iload_n hK 1 rfl dX7_needRule_7 ?_
    refine aw_cs hK (as := [q_i x1]) (trp_X7_isLetterOrEmpty x1 _) gX7_needRule_X7_isLetterOrEmpty rfl (na := 1) (by decide +kernel) rfl ⟨by decide, by decide⟩ (Nat.zero_le _) (Nat.le_of_ble_eq_true rfl) dX7_needRule_8 ?_
    refine aw_if_eq hK 28 rfl dX7_needRule_11 (fun hc => ?_) (fun hc => ?_)
    · have hF := if_t hF hc
      refine aw_sub [] (lv' := []) rfl ?_
      exact bk_X7_needRule_28 hK hR hF
    · have hF := if_f hF hc
      refine aw_iload_n hK 2 rfl dX7_needRule_14 ?_
      refine aw_cs hK (as := [q_i x2]) (trp_X7_isLetterOrAny x2 _) gX7_needRule_X7_isLetterOrAny rfl (na := 1) (by decide +kernel) rfl ⟨by decide, by decide⟩ (Nat.zero_le _) (Nat.le_of_ble_eq_true rfl) dX7_needRule_15 ?_
      refine aw_if_eq hK 28 rfl dX7_needRule_18 (fun hc => ?_) (fun hc => ?_)
      · have hF := if_t hF hc
        refine aw_sub [] (lv' := []) rfl ?_
        exact bk_X7_needRule_28 hK hR hF
      · have hF := if_f hF hc
        refine aw_iload_n hK 3 rfl dX7_needRule_21 ?_
        refine aw_cs hK (as := [q_i x3]) (trp_X7_isLetterOrAny x3 _) gX7_needRule_X7_isLetterOrAny rfl (na := 1) (by decide +kernel) rfl ⟨by decide, by decide⟩ (Nat.zero_le _) (Nat.le_of_ble_eq_true rfl) dX7_needRule_22 ?_
        refine aw_if_ne hK 39 rfl dX7_needRule_25 (fun hc => ?_) (fun hc => ?_)
        · have hF := if_f hF hc
          obtain ⟨rfl, rfl⟩ := so_inj hF
          exact aw_vretX hK hR (Nat.le_of_ble_eq_true rfl) dX7_needRule_39
        · have hF := if_t hF hc
          refine aw_sub [] (lv' := []) rfl ?_
          exact bk_X7_needRule_28 hK hR hF
