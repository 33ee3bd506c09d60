def F_X7_type (N : Nat) (m : Mem) (x1 : Int32) : Option ((Int32 ⊕ Nat) × Mem) :=
  if (P_X7_isLetter x1) = (0 : Int32) then (
    some (.inr 0, m)
  ) else (
    if (m 0 1) < (8 : Int32) then (
      gd (inb (m 0 1) (alen 1)) <|
      bnd (mup m 1 (ix (m 0 1)) x1) fun m2 =>
      bnd (mup m2 0 1 ((m2 0 1) + (1 : Int32))) fun m3 =>
      some (.inl (m3 0 1), m3)
    ) else (
      some (.inr 1, m)
    )
  )
set_option maxRecDepth 100000 in
set_option maxHeartbeats 4000000 in
theorem trX_X7_type {N : Nat} {m m' : Mem} {res : Int32 ⊕ Nat} {x1 : Int32} (hF : F_X7_type N m x1 = some (res, m')) : TrX yX7_type wsX7_type 6 90 1 [q_r 0, q_i x1] m (xo true res) m' := by
  refine trX_of (bytes := cX7_type) (maxL := 2) (ret := (some .int)) (by decide) rfl (Nat.le_of_ble_eq_true rfl) (fun K hK hR => ?_)
  have hK : KOK K cX7_type 2 RX7 wsX7_type 6 1 90 := hK
  show AW K 0 0 [(0, q_r 0), (1, q_i x1)] [] m
  unfold F_X7_type at hF
  refine aw_iload_n hK 1 rfl dX7_type_0 ?_
  refine aw_cs hK (as := [q_i x1]) (trp_X7_isLetter x1 _) gX7_type_X7_isLetter rfl (na := 1) (by decide +kernel) rfl ⟨by decide, by decide⟩ (Nat.zero_le _) (Nat.le_of_ble_eq_true rfl) dX7_type_1 ?_
  refine aw_if_ne hK 17 rfl dX7_type_4 (fun hc => ?_) (fun hc => ?_)
  · have hF := if_f hF hc
    refine aw_aload_n hK 0 rfl dX7_type_17 ?_
    refine gf_7_1 hK rfl (List.mem_of_getElem? (i := 5) rfl) dX7_type_18 ?_
    refine aw_bipush hK (8) rfl dX7_type_21 ?_
    refine aw_icmp_lt hK 36 rfl dX7_type_23 (fun hc => ?_) (fun hc => ?_)
    · have hF := if_t hF hc
      refine aw_aload_n hK 0 rfl dX7_type_36 ?_
      refine gf_7_0 hK rfl (1) rfl (List.mem_of_getElem? (i := 6) rfl) dX7_type_37 ?_
      refine aw_aload_n hK 0 rfl dX7_type_40 ?_
      refine gf_7_1 hK rfl (List.mem_of_getElem? (i := 5) rfl) dX7_type_41 ?_
      refine aw_iload_n hK 1 rfl dX7_type_44 ?_
      obtain ⟨g1, hF⟩ := gd_some hF
      refine aw_iast hK rfl g1 dX7_type_45 ?_
      obtain ⟨m2, hm2, hF⟩ := bnd_some hF
      refine aw_mm hm2 ?_
      refine aw_aload_n hK 0 rfl dX7_type_46 ?_
      refine aw_dup hK rfl dX7_type_47 ?_
      refine gf_7_1 hK rfl (List.mem_of_getElem? (i := 5) rfl) dX7_type_48 ?_
      refine aw_iconst hK (1) rfl dX7_type_51 ?_
      refine aw_iadd hK dX7_type_52 ?_
      refine pf_7_1 hK rfl (List.mem_of_getElem? (i := 5) rfl) dX7_type_53 ?_
      obtain ⟨m3, hm3, hF⟩ := bnd_some hF
      refine aw_mm hm3 ?_
      refine aw_aload_n hK 0 rfl dX7_type_56 ?_
      refine gf_7_1 hK rfl (List.mem_of_getElem? (i := 5) rfl) dX7_type_57 ?_
      obtain ⟨rfl, rfl⟩ := so_inj hF
      exact aw_iretX hK hR rfl (Nat.le_of_ble_eq_true rfl) dX7_type_60
    · have hF := if_f hF hc
      obtain ⟨rfl, rfl⟩ := so_inj hF
      exact aw_throw (ik := 66) (ic := 70) (x := 1) hK hR (by decide) (List.mem_of_getElem? (i := 3) rfl) (List.mem_of_getElem? (i := 4) rfl) (List.mem_of_getElem? (i := 1) rfl) (by decide +kernel) (by decide +kernel) (by decide +kernel) (by decide +kernel) ⟨by decide, by decide⟩ (Nat.le_of_ble_eq_true rfl) (Nat.le_of_ble_eq_true rfl) dX7_type_26 dX7_type_29 dX7_type_30 dX7_type_32 dX7_type_35
  · have hF := if_t hF hc
    obtain ⟨rfl, rfl⟩ := so_inj hF
    exact aw_throw (ik := 59) (ic := 63) (x := 0) hK hR (by decide) (List.mem_of_getElem? (i := 1) rfl) (List.mem_of_getElem? (i := 2) rfl) (List.mem_of_getElem? (i := 0) rfl) (by decide +kernel) (by decide +kernel) (by decide +kernel) (by decide +kernel) ⟨by decide, by decide⟩ (Nat.le_of_ble_eq_true rfl) (Nat.le_of_ble_eq_true rfl) dX7_type_7 dX7_type_10 dX7_type_11 dX7_type_13 dX7_type_16
set_option maxRecDepth 100000 in
set_option maxHeartbeats 4000000 in
theorem trN_X7_type {N : Nat} {m m' : Mem} {r : Int32} {x1 : Int32} (hF : F_X7_type N m x1 = some (.inl r, m')) : Tr yX7_type wsX7_type 6 90 [q_r 0, q_i x1] m (some r) m' := by
  refine tr_of (bytes := cX7_type) (maxL := 2) (ret := (some .int)) (by decide) rfl (Nat.le_of_ble_eq_true rfl) (fun K hK hR => ?_)
  have hK : KOK K cX7_type 2 RX7 wsX7_type 6 0 90 := hK
  show AW K 0 0 [(0, q_r 0), (1, q_i x1)] [] m
  unfold F_X7_type at hF
  refine aw_iload_n hK 1 rfl dX7_type_0 ?_
  refine aw_cs hK (as := [q_i x1]) (trp_X7_isLetter x1 _) gX7_type_X7_isLetter rfl (na := 1) (by decide +kernel) rfl ⟨by decide, by decide⟩ (Nat.zero_le _) (Nat.le_of_ble_eq_true rfl) dX7_type_1 ?_
  refine aw_if_ne hK 17 rfl dX7_type_4 (fun hc => ?_) (fun hc => ?_)
  · have hF := if_f hF hc
    refine aw_aload_n hK 0 rfl dX7_type_17 ?_
    refine gf_7_1 hK rfl (List.mem_of_getElem? (i := 5) rfl) dX7_type_18 ?_
    refine aw_bipush hK (8) rfl dX7_type_21 ?_
    refine aw_icmp_lt hK 36 rfl dX7_type_23 (fun hc => ?_) (fun hc => ?_)
    · have hF := if_t hF hc
      refine aw_aload_n hK 0 rfl dX7_type_36 ?_
      refine gf_7_0 hK rfl (1) rfl (List.mem_of_getElem? (i := 6) rfl) dX7_type_37 ?_
      refine aw_aload_n hK 0 rfl dX7_type_40 ?_
      refine gf_7_1 hK rfl (List.mem_of_getElem? (i := 5) rfl) dX7_type_41 ?_
      refine aw_iload_n hK 1 rfl dX7_type_44 ?_
      obtain ⟨g1, hF⟩ := gd_some hF
      refine aw_iast hK rfl g1 dX7_type_45 ?_
      obtain ⟨m2, hm2, hF⟩ := bnd_some hF
      refine aw_mm hm2 ?_
      refine aw_aload_n hK 0 rfl dX7_type_46 ?_
      refine aw_dup hK rfl dX7_type_47 ?_
      refine gf_7_1 hK rfl (List.mem_of_getElem? (i := 5) rfl) dX7_type_48 ?_
      refine aw_iconst hK (1) rfl dX7_type_51 ?_
      refine aw_iadd hK dX7_type_52 ?_
      refine pf_7_1 hK rfl (List.mem_of_getElem? (i := 5) rfl) dX7_type_53 ?_
      obtain ⟨m3, hm3, hF⟩ := bnd_some hF
      refine aw_mm hm3 ?_
      refine aw_aload_n hK 0 rfl dX7_type_56 ?_
      refine gf_7_1 hK rfl (List.mem_of_getElem? (i := 5) rfl) dX7_type_57 ?_
      obtain ⟨e1, rfl⟩ := so_inj hF
      cases e1
      exact aw_iret hK hR rfl dX7_type_60
    · have hF := if_f hF hc
      cases hF
  · have hF := if_t hF hc
    cases hF
def F_X7_keepDraft (N : Nat) (m : Mem) : Option ((Int32 ⊕ Nat) × Mem) :=
  if (m 0 3) < (24 : Int32) then (
    gd (inb (m 0 3) (alen 2)) <|
    cal (F_X1_trimInto N m (200 + 4 * ix (m 0 3))) fun r4 m3 =>
    if r4 = (0 : Int32) then (
      some (.inr 1, m3)
    ) else (
      bnd (mup m3 0 3 ((m3 0 3) + (1 : Int32))) fun m5 =>
      some (.inl ((m5 0 3) - (1 : Int32)), m5)
    )
  ) else (
    some (.inr 1, m)
  )
set_option maxRecDepth 100000 in
set_option maxHeartbeats 4000000 in
theorem trX_X7_keepDraft {N : Nat} {m m' : Mem} {res : Int32 ⊕ Nat} (hF : F_X7_keepDraft N m = some (res, m')) : TrX yX7_keepDraft wsX7_keepDraft 6 94 1 [q_r 0] m (xo true res) m' := by
  refine trX_of (bytes := cX7_keepDraft) (maxL := 1) (ret := (some .int)) (by decide) rfl (Nat.le_of_ble_eq_true rfl) (fun K hK hR => ?_)
  have hK : KOK K cX7_keepDraft 1 RX7 wsX7_keepDraft 6 1 94 := hK
  show AW K 0 0 [(0, q_r 0)] [] m
  unfold F_X7_keepDraft at hF
  refine aw_aload_n hK 0 rfl dX7_keepDraft_0 ?_
  refine gf_7_3 hK rfl (List.mem_of_getElem? (i := 3) rfl) dX7_keepDraft_1 ?_
  refine aw_bipush hK (24) rfl dX7_keepDraft_4 ?_
  refine aw_icmp_lt hK 20 rfl dX7_keepDraft_6 (fun hc => ?_) (fun hc => ?_)
  · have hF := if_t hF hc
    refine aw_aload_n hK 0 rfl dX7_keepDraft_20 ?_
    refine gf_7_4 hK rfl (3) rfl (List.mem_of_getElem? (i := 4) rfl) dX7_keepDraft_21 ?_
    refine aw_aload_n hK 0 rfl dX7_keepDraft_24 ?_
    refine gf_7_2 hK rfl (2) rfl (List.mem_of_getElem? (i := 5) rfl) dX7_keepDraft_25 ?_
    refine aw_aload_n hK 0 rfl dX7_keepDraft_28 ?_
    refine gf_7_3 hK rfl (List.mem_of_getElem? (i := 3) rfl) dX7_keepDraft_29 ?_
    obtain ⟨g1, hF⟩ := gd_some hF
    refine aw_aald hK rfl g1 dX7_keepDraft_32 ?_
    obtain ⟨r4, m3, h2, hF⟩ := cal_some hF
    refine aw_cv hK 1 (as := [q_r (200 + 4 * ix (m 0 3))]) (tr_X1_trimInto (kMi g1) h2) gX7_keepDraft_X1_trimInto rfl rfl rfl (by decide) (na := 1) (by decide +kernel) rfl ⟨by decide, by decide⟩ (Nat.zero_le _) (Nat.le_of_ble_eq_true rfl) dX7_keepDraft_33 ?_
    refine aw_if_ne hK 50 rfl dX7_keepDraft_36 (fun hc => ?_) (fun hc => ?_)
    · have hF := if_f hF hc
      refine aw_aload_n hK 0 rfl dX7_keepDraft_50 ?_
      refine aw_dup hK rfl dX7_keepDraft_51 ?_
      refine gf_7_3 hK rfl (List.mem_of_getElem? (i := 3) rfl) dX7_keepDraft_52 ?_
      refine aw_iconst hK (1) rfl dX7_keepDraft_55 ?_
      refine aw_iadd hK dX7_keepDraft_56 ?_
      refine pf_7_3 hK rfl (List.mem_of_getElem? (i := 3) rfl) dX7_keepDraft_57 ?_
      obtain ⟨m5, hm5, hF⟩ := bnd_some hF
      refine aw_mm hm5 ?_
      refine aw_aload_n hK 0 rfl dX7_keepDraft_60 ?_
      refine gf_7_3 hK rfl (List.mem_of_getElem? (i := 3) rfl) dX7_keepDraft_61 ?_
      refine aw_iconst hK (1) rfl dX7_keepDraft_64 ?_
      refine aw_isub hK dX7_keepDraft_65 ?_
      obtain ⟨rfl, rfl⟩ := so_inj hF
      exact aw_iretX hK hR rfl (Nat.le_of_ble_eq_true rfl) dX7_keepDraft_66
    · have hF := if_t hF hc
      obtain ⟨rfl, rfl⟩ := so_inj hF
      exact aw_throwW (ik := 66) (ic := 70) (x := 1) hK hR (by decide) (List.mem_of_getElem? (i := 1) rfl) (List.mem_of_getElem? (i := 2) rfl) (List.mem_of_getElem? (i := 17) rfl) (by decide +kernel) (by decide +kernel) (by decide +kernel) (by decide +kernel) ⟨by decide, by decide⟩ (Nat.le_of_ble_eq_true rfl) (Nat.le_of_ble_eq_true rfl) dX7_keepDraft_39 dX7_keepDraft_42 dX7_keepDraft_43 dX7_keepDraft_46 dX7_keepDraft_49
  · have hF := if_f hF hc
    obtain ⟨rfl, rfl⟩ := so_inj hF
    exact aw_throwW (ik := 66) (ic := 70) (x := 1) hK hR (by decide) (List.mem_of_getElem? (i := 1) rfl) (List.mem_of_getElem? (i := 2) rfl) (List.mem_of_getElem? (i := 16) rfl) (by decide +kernel) (by decide +kernel) (by decide +kernel) (by decide +kernel) ⟨by decide, by decide⟩ (Nat.le_of_ble_eq_true rfl) (Nat.le_of_ble_eq_true rfl) dX7_keepDraft_9 dX7_keepDraft_12 dX7_keepDraft_13 dX7_keepDraft_16 dX7_keepDraft_19
set_option maxRecDepth 100000 in
set_option maxHeartbeats 4000000 in
theorem trN_X7_keepDraft {N : Nat} {m m' : Mem} {r : Int32} (hF : F_X7_keepDraft N m = some (.inl r, m')) : Tr yX7_keepDraft wsX7_keepDraft 6 94 [q_r 0] m (some r) m' := by
  refine tr_of (bytes := cX7_keepDraft) (maxL := 1) (ret := (some .int)) (by decide) rfl (Nat.le_of_ble_eq_true rfl) (fun K hK hR => ?_)
  have hK : KOK K cX7_keepDraft 1 RX7 wsX7_keepDraft 6 0 94 := hK
  show AW K 0 0 [(0, q_r 0)] [] m
  unfold F_X7_keepDraft at hF
  refine aw_aload_n hK 0 rfl dX7_keepDraft_0 ?_
  refine gf_7_3 hK rfl (List.mem_of_getElem? (i := 3) rfl) dX7_keepDraft_1 ?_
  refine aw_bipush hK (24) rfl dX7_keepDraft_4 ?_
  refine aw_icmp_lt hK 20 rfl dX7_keepDraft_6 (fun hc => ?_) (fun hc => ?_)
  · have hF := if_t hF hc
    refine aw_aload_n hK 0 rfl dX7_keepDraft_20 ?_
    refine gf_7_4 hK rfl (3) rfl (List.mem_of_getElem? (i := 4) rfl) dX7_keepDraft_21 ?_
    refine aw_aload_n hK 0 rfl dX7_keepDraft_24 ?_
    refine gf_7_2 hK rfl (2) rfl (List.mem_of_getElem? (i := 5) rfl) dX7_keepDraft_25 ?_
    refine aw_aload_n hK 0 rfl dX7_keepDraft_28 ?_
    refine gf_7_3 hK rfl (List.mem_of_getElem? (i := 3) rfl) dX7_keepDraft_29 ?_
    obtain ⟨g1, hF⟩ := gd_some hF
    refine aw_aald hK rfl g1 dX7_keepDraft_32 ?_
    obtain ⟨r4, m3, h2, hF⟩ := cal_some hF
    refine aw_cv hK 1 (as := [q_r (200 + 4 * ix (m 0 3))]) (tr_X1_trimInto (kMi g1) h2) gX7_keepDraft_X1_trimInto rfl rfl rfl (by decide) (na := 1) (by decide +kernel) rfl ⟨by decide, by decide⟩ (Nat.zero_le _) (Nat.le_of_ble_eq_true rfl) dX7_keepDraft_33 ?_
    refine aw_if_ne hK 50 rfl dX7_keepDraft_36 (fun hc => ?_) (fun hc => ?_)
    · have hF := if_f hF hc
      refine aw_aload_n hK 0 rfl dX7_keepDraft_50 ?_
      refine aw_dup hK rfl dX7_keepDraft_51 ?_
      refine gf_7_3 hK rfl (List.mem_of_getElem? (i := 3) rfl) dX7_keepDraft_52 ?_
      refine aw_iconst hK (1) rfl dX7_keepDraft_55 ?_
      refine aw_iadd hK dX7_keepDraft_56 ?_
      refine pf_7_3 hK rfl (List.mem_of_getElem? (i := 3) rfl) dX7_keepDraft_57 ?_
      obtain ⟨m5, hm5, hF⟩ := bnd_some hF
      refine aw_mm hm5 ?_
      refine aw_aload_n hK 0 rfl dX7_keepDraft_60 ?_
      refine gf_7_3 hK rfl (List.mem_of_getElem? (i := 3) rfl) dX7_keepDraft_61 ?_
      refine aw_iconst hK (1) rfl dX7_keepDraft_64 ?_
      refine aw_isub hK dX7_keepDraft_65 ?_
      obtain ⟨e1, rfl⟩ := so_inj hF
      cases e1
      exact aw_iret hK hR rfl dX7_keepDraft_66
    · have hF := if_t hF hc
      cases hF
  · have hF := if_f hF hc
    cases hF
def B_X7_pair_34 (N : Nat) (m : Mem) : Option ((Int32 ⊕ Nat) × Mem) :=
  some (.inr 0, m)
set_option maxRecDepth 100000 in
set_option maxHeartbeats 4000000 in
theorem bk_X7_pair_34 {N : Nat} {K : KT} {m' : Mem} {res : Int32 ⊕ Nat} (hK : KOK K cX7_pair 4 RX7 wsX7_pair 7 1 114) (hR : KX K (some .int) (xo true res) m' 1) {m : Mem} (hF : B_X7_pair_34 N m = some (res, m')) : AW K 0 34 [] [] m := by
  unfold B_X7_pair_34 at hF
  obtain ⟨rfl, rfl⟩ := so_inj hF
  exact aw_throw (ik := 59) (ic := 63) (x := 0) hK hR (by decide) (List.mem_of_getElem? (i := 1) rfl) (List.mem_of_getElem? (i := 2) rfl) (List.mem_of_getElem? (i := 2) rfl) (by decide +kernel) (by decide +kernel) (by decide +kernel) (by decide +kernel) ⟨by decide, by decide⟩ (Nat.le_of_ble_eq_true rfl) (Nat.le_of_ble_eq_true rfl) dX7_pair_34 dX7_pair_37 dX7_pair_38 dX7_pair_40 dX7_pair_43
def B_X7_pair_14 (N : Nat) (m : Mem) : Option ((Int32 ⊕ Nat) × Mem) :=
  some (.inr 0, m)
set_option maxRecDepth 100000 in
set_option maxHeartbeats 4000000 in
theorem bk_X7_pair_14 {N : Nat} {K : KT} {m' : Mem} {res : Int32 ⊕ Nat} (hK : KOK K cX7_pair 4 RX7 wsX7_pair 7 1 114) (hR : KX K (some .int) (xo true res) m' 1) {m : Mem} (hF : B_X7_pair_14 N m = some (res, m')) : AW K 0 14 [] [] m := by
  unfold B_X7_pair_14 at hF
  obtain ⟨rfl, rfl⟩ := so_inj hF
  exact aw_throw (ik := 59) (ic := 63) (x := 0) hK hR (by decide) (List.mem_of_getElem? (i := 1) rfl) (List.mem_of_getElem? (i := 2) rfl) (List.mem_of_getElem? (i := 0) rfl) (by decide +kernel) (by decide +kernel) (by decide +kernel) (by decide +kernel) ⟨by decide, by decide⟩ (Nat.le_of_ble_eq_true rfl) (Nat.le_of_ble_eq_true rfl) dX7_pair_14 dX7_pair_17 dX7_pair_18 dX7_pair_20 dX7_pair_23
def F_X7_pair (N : Nat) (m : Mem) (x1 : Int32) (x2 : Int32) (x3 : Int32) : Option ((Int32 ⊕ Nat) × Mem) :=
  if (P_X7_isLetterOrEmpty x1) = (0 : Int32) then (
    B_X7_pair_14 N m
  ) else (
    if (P_X7_isLetterOrEmpty x2) = (0 : Int32) then (
      B_X7_pair_14 N m
    ) else (
      if x3 < (0 : Int32) then (
        B_X7_pair_34 N m
      ) else (
        if x3 ≤ (100 : Int32) then (
          calv (F_X1_begin N m (2 : Int32) (0 : Int32)) fun m2 =>
          calv (F_X1_addArc N m2 (0 : Int32) x1 x2 x3 (1 : Int32)) fun m4 =>
          calv (F_X1_addEnd N m4 (1 : Int32)) fun m6 =>
          calx (F_X7_keepDraft N m6) fun r9 m8 =>
          some (.inl r9, m8)
        ) else (
          B_X7_pair_34 N m
        )
      )
    )
  )
set_option maxRecDepth 100000 in
set_option maxHeartbeats 4000000 in
theorem trX_X7_pair {N : Nat} {m m' : Mem} {res : Int32 ⊕ Nat} {x1 : Int32} {x2 : Int32} {x3 : Int32} (hF : F_X7_pair N m x1 x2 x3 = some (res, m')) : TrX yX7_pair wsX7_pair 7 114 1 [q_r 0, q_i x1, q_i x2, q_i x3] m (xo true res) m' := by
  refine trX_of (bytes := cX7_pair) (maxL := 4) (ret := (some .int)) (by decide) rfl (Nat.le_of_ble_eq_true rfl) (fun K hK hR => ?_)
  have hK : KOK K cX7_pair 4 RX7 wsX7_pair 7 1 114 := hK
  show AW K 0 0 [(0, q_r 0), (1, q_i x1), (2, q_i x2), (3, q_i x3)] [] m
  unfold F_X7_pair at hF
  refine aw_iload_n hK 1 rfl dX7_pair_0 ?_
  refine aw_cs hK (as := [q_i x1]) (trp_X7_isLetterOrEmpty x1 _) gX7_pair_X7_isLetterOrEmpty rfl (na := 1) (by decide +kernel) rfl ⟨by decide, by decide⟩ (Nat.zero_le _) (Nat.le_of_ble_eq_true rfl) dX7_pair_1 ?_
  refine aw_if_eq hK 14 rfl dX7_pair_4 (fun hc => ?_) (fun hc => ?_)
  · have hF := if_t hF hc
    refine aw_sub [] (lv' := []) rfl ?_
    exact bk_X7_pair_14 hK hR hF
  · have hF := if_f hF hc
    refine aw_iload_n hK 2 rfl dX7_pair_7 ?_
    refine aw_cs hK (as := [q_i x2]) (trp_X7_isLetterOrEmpty x2 _) gX7_pair_X7_isLetterOrEmpty rfl (na := 1) (by decide +kernel) rfl ⟨by decide, by decide⟩ (Nat.zero_le _) (Nat.le_of_ble_eq_true rfl) dX7_pair_8 ?_
    refine aw_if_ne hK 24 rfl dX7_pair_11 (fun hc => ?_) (fun hc => ?_)
    · have hF := if_f hF hc
      refine aw_iload_n hK 3 rfl dX7_pair_24 ?_
      refine aw_if_lt hK 34 rfl dX7_pair_25 (fun hc => ?_) (fun hc => ?_)
      · have hF := if_t hF hc
        refine aw_sub [] (lv' := []) rfl ?_
        exact bk_X7_pair_34 hK hR hF
      · have hF := if_f hF hc
        refine aw_iload_n hK 3 rfl dX7_pair_28 ?_
        refine aw_bipush hK (100) rfl dX7_pair_29 ?_
        refine aw_icmp_le hK 44 rfl dX7_pair_31 (fun hc => ?_) (fun hc => ?_)
        · have hF := if_t hF hc
          refine aw_aload_n hK 0 rfl dX7_pair_44 ?_
          refine gf_7_4 hK rfl (3) rfl (List.mem_of_getElem? (i := 3) rfl) dX7_pair_45 ?_
          refine aw_iconst hK (2) rfl dX7_pair_48 ?_
          refine aw_iconst hK (0) rfl dX7_pair_49 ?_
          obtain ⟨m2, h1, hF⟩ := calv_some hF
          refine aw_cv hK 1 (as := [q_i (2 : Int32), q_i (0 : Int32)]) (tr_X1_begin h1) gX7_pair_X1_begin rfl rfl rfl (by decide) (na := 2) (by decide +kernel) rfl ⟨by decide, by decide⟩ (Nat.zero_le _) (Nat.le_of_ble_eq_true rfl) dX7_pair_50 ?_
          refine aw_aload_n hK 0 rfl dX7_pair_53 ?_
          refine gf_7_4 hK rfl (3) rfl (List.mem_of_getElem? (i := 3) rfl) dX7_pair_54 ?_
          refine aw_iconst hK (0) rfl dX7_pair_57 ?_
          refine aw_iload_n hK 1 rfl dX7_pair_58 ?_
          refine aw_iload_n hK 2 rfl dX7_pair_59 ?_
          refine aw_iload_n hK 3 rfl dX7_pair_60 ?_
          refine aw_iconst hK (1) rfl dX7_pair_61 ?_
          obtain ⟨m4, h3, hF⟩ := calv_some hF
          refine aw_cv hK 1 (as := [q_i (0 : Int32), q_i x1, q_i x2, q_i x3, q_i (1 : Int32)]) (tr_X1_addArc h3) gX7_pair_X1_addArc rfl rfl rfl (by decide) (na := 5) (by decide +kernel) rfl ⟨by decide, by decide⟩ (Nat.zero_le _) (Nat.le_of_ble_eq_true rfl) dX7_pair_62 ?_
          refine aw_aload_n hK 0 rfl dX7_pair_65 ?_
          refine gf_7_4 hK rfl (3) rfl (List.mem_of_getElem? (i := 3) rfl) dX7_pair_66 ?_
          refine aw_iconst hK (1) rfl dX7_pair_69 ?_
          obtain ⟨m6, h5, hF⟩ := calv_some hF
          refine aw_cv hK 1 (as := [q_i (1 : Int32)]) (tr_X1_addEnd h5) gX7_pair_X1_addEnd rfl rfl rfl (by decide) (na := 1) (by decide +kernel) rfl ⟨by decide, by decide⟩ (Nat.zero_le _) (Nat.le_of_ble_eq_true rfl) dX7_pair_70 ?_
          refine aw_aload_n hK 0 rfl dX7_pair_73 ?_
          rcases calx_some hF with ⟨r9, m8, h7, hF⟩ | ⟨x_10, m8, h7, hF⟩
          · refine aw_cvXr hK (kxb hR) 7 (as := []) (trX_X7_keepDraft h7) gX7_pair_X7_keepDraft rfl rfl rfl (by decide) (na := 0) (by decide +kernel) rfl ⟨by decide, by decide⟩ (Nat.le_of_ble_eq_true rfl) (Nat.le_of_ble_eq_true rfl) dX7_pair_74 ?_
            obtain ⟨rfl, rfl⟩ := so_inj hF
            exact aw_iretX hK hR rfl (Nat.le_of_ble_eq_true rfl) dX7_pair_77
          · obtain ⟨rfl, rfl⟩ := Prod.mk.inj hF
            exact aw_cvXx hK hR 7 (as := []) (trX_X7_keepDraft h7) gX7_pair_X7_keepDraft rfl rfl rfl (by decide) (na := 0) (by decide +kernel) rfl ⟨by decide, by decide⟩ (Nat.le_of_ble_eq_true rfl) (Nat.le_of_ble_eq_true rfl) dX7_pair_74
        · have hF := if_f hF hc
          refine aw_sub [] (lv' := []) rfl ?_
          exact bk_X7_pair_34 hK hR hF
    · have hF := if_t hF hc
      refine aw_sub [] (lv' := []) rfl ?_
      exact bk_X7_pair_14 hK hR hF
set_option maxRecDepth 100000 in
set_option maxHeartbeats 4000000 in
theorem bkN_X7_pair_34 {N : Nat} {K : KT} {m' : Mem} {r : Int32} (hK : KOK K cX7_pair 4 RX7 wsX7_pair 7 0 114) (hR : KRet K (some .int) (some r) m') {m : Mem} (hF : B_X7_pair_34 N m = some (.inl r, m')) : AW K 0 34 [] [] m := by
  unfold B_X7_pair_34 at hF
  cases hF
set_option maxRecDepth 100000 in
set_option maxHeartbeats 4000000 in
theorem bkN_X7_pair_14 {N : Nat} {K : KT} {m' : Mem} {r : Int32} (hK : KOK K cX7_pair 4 RX7 wsX7_pair 7 0 114) (hR : KRet K (some .int) (some r) m') {m : Mem} (hF : B_X7_pair_14 N m = some (.inl r, m')) : AW K 0 14 [] [] m := by
  unfold B_X7_pair_14 at hF
  cases hF
set_option maxRecDepth 100000 in
set_option maxHeartbeats 4000000 in
theorem trN_X7_pair {N : Nat} {m m' : Mem} {r : Int32} {x1 : Int32} {x2 : Int32} {x3 : Int32} (hF : F_X7_pair N m x1 x2 x3 = some (.inl r, m')) : Tr yX7_pair wsX7_pair 7 114 [q_r 0, q_i x1, q_i x2, q_i x3] m (some r) m' := by
  refine tr_of (bytes := cX7_pair) (maxL := 4) (ret := (some .int)) (by decide) rfl (Nat.le_of_ble_eq_true rfl) (fun K hK hR => ?_)
  have hK : KOK K cX7_pair 4 RX7 wsX7_pair 7 0 114 := hK
  show AW K 0 0 [(0, q_r 0), (1, q_i x1), (2, q_i x2), (3, q_i x3)] [] m
  unfold F_X7_pair at hF
  refine aw_iload_n hK 1 rfl dX7_pair_0 ?_
  refine aw_cs hK (as := [q_i x1]) (trp_X7_isLetterOrEmpty x1 _) gX7_pair_X7_isLetterOrEmpty rfl (na := 1) (by decide +kernel) rfl ⟨by decide, by decide⟩ (Nat.zero_le _) (Nat.le_of_ble_eq_true rfl) dX7_pair_1 ?_
  refine aw_if_eq hK 14 rfl dX7_pair_4 (fun hc => ?_) (fun hc => ?_)
  · have hF := if_t hF hc
    refine aw_sub [] (lv' := []) rfl ?_
    exact bkN_X7_pair_14 hK hR hF
  · have hF := if_f hF hc
    refine aw_iload_n hK 2 rfl dX7_pair_7 ?_
    refine aw_cs hK (as := [q_i x2]) (trp_X7_isLetterOrEmpty x2 _) gX7_pair_X7_isLetterOrEmpty rfl (na := 1) (by decide +kernel) rfl ⟨by decide, by decide⟩ (Nat.zero_le _) (Nat.le_of_ble_eq_true rfl) dX7_pair_8 ?_
    refine aw_if_ne hK 24 rfl dX7_pair_11 (fun hc => ?_) (fun hc => ?_)
    · have hF := if_f hF hc
      refine aw_iload_n hK 3 rfl dX7_pair_24 ?_
      refine aw_if_lt hK 34 rfl dX7_pair_25 (fun hc => ?_) (fun hc => ?_)
      · have hF := if_t hF hc
        refine aw_sub [] (lv' := []) rfl ?_
        exact bkN_X7_pair_34 hK hR hF
      · have hF := if_f hF hc
        refine aw_iload_n hK 3 rfl dX7_pair_28 ?_
        refine aw_bipush hK (100) rfl dX7_pair_29 ?_
        refine aw_icmp_le hK 44 rfl dX7_pair_31 (fun hc => ?_) (fun hc => ?_)
        · have hF := if_t hF hc
          refine aw_aload_n hK 0 rfl dX7_pair_44 ?_
          refine gf_7_4 hK rfl (3) rfl (List.mem_of_getElem? (i := 3) rfl) dX7_pair_45 ?_
          refine aw_iconst hK (2) rfl dX7_pair_48 ?_
          refine aw_iconst hK (0) rfl dX7_pair_49 ?_
          obtain ⟨m2, h1, hF⟩ := calv_some hF
          refine aw_cv hK 1 (as := [q_i (2 : Int32), q_i (0 : Int32)]) (tr_X1_begin h1) gX7_pair_X1_begin rfl rfl rfl (by decide) (na := 2) (by decide +kernel) rfl ⟨by decide, by decide⟩ (Nat.zero_le _) (Nat.le_of_ble_eq_true rfl) dX7_pair_50 ?_
          refine aw_aload_n hK 0 rfl dX7_pair_53 ?_
          refine gf_7_4 hK rfl (3) rfl (List.mem_of_getElem? (i := 3) rfl) dX7_pair_54 ?_
          refine aw_iconst hK (0) rfl dX7_pair_57 ?_
          refine aw_iload_n hK 1 rfl dX7_pair_58 ?_
          refine aw_iload_n hK 2 rfl dX7_pair_59 ?_
          refine aw_iload_n hK 3 rfl dX7_pair_60 ?_
          refine aw_iconst hK (1) rfl dX7_pair_61 ?_
          obtain ⟨m4, h3, hF⟩ := calv_some hF
          refine aw_cv hK 1 (as := [q_i (0 : Int32), q_i x1, q_i x2, q_i x3, q_i (1 : Int32)]) (tr_X1_addArc h3) gX7_pair_X1_addArc rfl rfl rfl (by decide) (na := 5) (by decide +kernel) rfl ⟨by decide, by decide⟩ (Nat.zero_le _) (Nat.le_of_ble_eq_true rfl) dX7_pair_62 ?_
          refine aw_aload_n hK 0 rfl dX7_pair_65 ?_
          refine gf_7_4 hK rfl (3) rfl (List.mem_of_getElem? (i := 3) rfl) dX7_pair_66 ?_
          refine aw_iconst hK (1) rfl dX7_pair_69 ?_
          obtain ⟨m6, h5, hF⟩ := calv_some hF
          refine aw_cv hK 1 (as := [q_i (1 : Int32)]) (tr_X1_addEnd h5) gX7_pair_X1_addEnd rfl rfl rfl (by decide) (na := 1) (by decide +kernel) rfl ⟨by decide, by decide⟩ (Nat.zero_le _) (Nat.le_of_ble_eq_true rfl) dX7_pair_70 ?_
          refine aw_aload_n hK 0 rfl dX7_pair_73 ?_
          rcases calx_some hF with ⟨r9, m8, h7, hF⟩ | ⟨x_10, m8, h7, hF⟩
          · refine aw_cv hK 7 (as := []) (trN_X7_keepDraft h7) gX7_pair_X7_keepDraft rfl rfl rfl (by decide) (na := 0) (by decide +kernel) rfl ⟨by decide, by decide⟩ (Nat.zero_le _) (Nat.le_of_ble_eq_true rfl) dX7_pair_74 ?_
            obtain ⟨e1, rfl⟩ := so_inj hF
            cases e1
            exact aw_iret hK hR rfl dX7_pair_77
          · cases hF
        · have hF := if_f hF hc
          refine aw_sub [] (lv' := []) rfl ?_
          exact bkN_X7_pair_34 hK hR hF
    · have hF := if_t hF hc
      refine aw_sub [] (lv' := []) rfl ?_
      exact bkN_X7_pair_14 hK hR hF
def S_X7_word_16 (N : Nat) (rec_16 : Mem → Int32 → Option ((Int32 ⊕ Nat) × Mem)) (m : Mem) (x1 : Int32) : Option ((Int32 ⊕ Nat) × Mem) :=
  if (m 0 1) ≤ x1 then (
    calv (F_X1_addEnd N m (m 0 1)) fun m4 =>
    calx (F_X7_keepDraft N m4) fun r7 m6 =>
    some (.inl r7, m6)
  ) else (
    gd (inb x1 (alen 1)) <|
    gd (inb x1 (alen 1)) <|
    calv (F_X1_addArc N m x1 (m 1 (ix x1)) (m 1 (ix x1)) (0 : Int32) (x1 + (1 : Int32))) fun m12 =>
    bnd (x1 + (1 : Int32)) fun y13 =>
    rec_16 m12 y13
  )
def L_X7_word_16 (N : Nat) : Nat → Mem → Int32 → Option ((Int32 ⊕ Nat) × Mem)
  | 0 => fun _ _ => none
  | f + 1 => S_X7_word_16 N (L_X7_word_16 N f)
set_option maxRecDepth 100000 in
set_option maxHeartbeats 4000000 in
theorem lp_X7_word_16 {N : Nat} {K : KT} {m' : Mem} {res : Int32 ⊕ Nat} (hK : KOK K cX7_word 2 RX7 wsX7_word 7 1 114) (hR : KX K (some .int) (xo true res) m' 1) : ∀ (f : Nat) {m : Mem} {x1 : Int32}, L_X7_word_16 N f m x1 = some (res, m') → AW K 0 16 [(0, q_r 0), (1, q_i x1)] [] m := by
  intro f
  induction f with
  | zero => intro m x1 hF; cases hF
  | succ f hrec_16 =>
    intro m x1 hF
    have hF : S_X7_word_16 N (L_X7_word_16 N f) m x1 = some (res, m') := hF
    unfold S_X7_word_16 at hF
    refine aw_iload_n hK 1 rfl dX7_word_16 ?_
    refine aw_aload_n hK 0 rfl dX7_word_17 ?_
    refine gf_7_1 hK rfl (List.mem_of_getElem? (i := 2) rfl) dX7_word_18 ?_
    refine aw_icmp_ge hK 54 rfl dX7_word_21 (fun hc => ?_) (fun hc => ?_)
    · have hF := if_t hF hc
      refine aw_aload_n hK 0 rfl dX7_word_54 ?_
      refine gf_7_4 hK rfl (3) rfl (List.mem_of_getElem? (i := 1) rfl) dX7_word_55 ?_
      refine aw_aload_n hK 0 rfl dX7_word_58 ?_
      refine gf_7_1 hK rfl (List.mem_of_getElem? (i := 2) rfl) dX7_word_59 ?_
      obtain ⟨m4, h3, hF⟩ := calv_some hF
      refine aw_cv hK 1 (as := [q_i (m 0 1)]) (tr_X1_addEnd h3) gX7_word_X1_addEnd rfl rfl rfl (by decide) (na := 1) (by decide +kernel) rfl ⟨by decide, by decide⟩ (Nat.zero_le _) (Nat.le_of_ble_eq_true rfl) dX7_word_62 ?_
      refine aw_aload_n hK 0 rfl dX7_word_65 ?_
      rcases calx_some hF with ⟨r7, m6, h5, hF⟩ | ⟨x_8, m6, h5, hF⟩
      · refine aw_cvXr hK (kxb hR) 7 (as := []) (trX_X7_keepDraft h5) gX7_word_X7_keepDraft rfl rfl rfl (by decide) (na := 0) (by decide +kernel) rfl ⟨by decide, by decide⟩ (Nat.le_of_ble_eq_true rfl) (Nat.le_of_ble_eq_true rfl) dX7_word_66 ?_
        obtain ⟨rfl, rfl⟩ := so_inj hF
        exact aw_iretX hK hR rfl (Nat.le_of_ble_eq_true rfl) dX7_word_69
      · obtain ⟨rfl, rfl⟩ := Prod.mk.inj hF
        exact aw_cvXx hK hR 7 (as := []) (trX_X7_keepDraft h5) gX7_word_X7_keepDraft rfl rfl rfl (by decide) (na := 0) (by decide +kernel) rfl ⟨by decide, by decide⟩ (Nat.le_of_ble_eq_true rfl) (Nat.le_of_ble_eq_true rfl) dX7_word_66
    · have hF := if_f hF hc
      refine aw_aload_n hK 0 rfl dX7_word_24 ?_
      refine gf_7_4 hK rfl (3) rfl (List.mem_of_getElem? (i := 1) rfl) dX7_word_25 ?_
      refine aw_iload_n hK 1 rfl dX7_word_28 ?_
      refine aw_aload_n hK 0 rfl dX7_word_29 ?_
      refine gf_7_0 hK rfl (1) rfl (List.mem_of_getElem? (i := 3) rfl) dX7_word_30 ?_
      refine aw_iload_n hK 1 rfl dX7_word_33 ?_
      obtain ⟨g9, hF⟩ := gd_some hF
      refine aw_iald hK rfl g9 dX7_word_34 ?_
      refine aw_aload_n hK 0 rfl dX7_word_35 ?_
      refine gf_7_0 hK rfl (1) rfl (List.mem_of_getElem? (i := 3) rfl) dX7_word_36 ?_
      refine aw_iload_n hK 1 rfl dX7_word_39 ?_
      obtain ⟨g10, hF⟩ := gd_some hF
      refine aw_iald hK rfl g10 dX7_word_40 ?_
      refine aw_iconst hK (0) rfl dX7_word_41 ?_
      refine aw_iload_n hK 1 rfl dX7_word_42 ?_
      refine aw_iconst hK (1) rfl dX7_word_43 ?_
      refine aw_iadd hK dX7_word_44 ?_
      obtain ⟨m12, h11, hF⟩ := calv_some hF
      refine aw_cv hK 1 (as := [q_i x1, q_i (m 1 (ix x1)), q_i (m 1 (ix x1)), q_i (0 : Int32), q_i (x1 + (1 : Int32))]) (tr_X1_addArc h11) gX7_word_X1_addArc rfl rfl rfl (by decide) (na := 5) (by decide +kernel) rfl ⟨by decide, by decide⟩ (Nat.zero_le _) (Nat.le_of_ble_eq_true rfl) dX7_word_45 ?_
      obtain ⟨y13, hy13, hF⟩ := bnd_some hF
      refine aw_iinc hK (cz := 1) 1 [(1, q_i y13), (0, q_r 0)] (by decide) rfl rfl hy13 rfl dX7_word_48 ?_
      refine aw_goto hK 16 rfl dX7_word_51 ?_
      refine aw_sub [1, 0] (lv' := [(0, q_r 0), (1, q_i y13)]) rfl ?_
      exact hrec_16 hF
def F_X7_word (N : Nat) (m : Mem) : Option ((Int32 ⊕ Nat) × Mem) :=
  calv (F_X1_begin N m ((m 0 1) + (1 : Int32)) (0 : Int32)) fun m2 =>
  L_X7_word_16 N N m2 (0 : Int32)
set_option maxRecDepth 100000 in
set_option maxHeartbeats 4000000 in
theorem trX_X7_word {N : Nat} {m m' : Mem} {res : Int32 ⊕ Nat} (hF : F_X7_word N m = some (res, m')) : TrX yX7_word wsX7_word 7 114 1 [q_r 0] m (xo true res) m' := by
  refine trX_of (bytes := cX7_word) (maxL := 2) (ret := (some .int)) (by decide) rfl (Nat.le_of_ble_eq_true rfl) (fun K hK hR => ?_)
  have hK : KOK K cX7_word 2 RX7 wsX7_word 7 1 114 := hK
  show AW K 0 0 [(0, q_r 0)] [] m
  unfold F_X7_word at hF
  refine aw_aload_n hK 0 rfl dX7_word_0 ?_
  refine gf_7_4 hK rfl (3) rfl (List.mem_of_getElem? (i := 1) rfl) dX7_word_1 ?_
  refine aw_aload_n hK 0 rfl dX7_word_4 ?_
  refine gf_7_1 hK rfl (List.mem_of_getElem? (i := 2) rfl) dX7_word_5 ?_
  refine aw_iconst hK (1) rfl dX7_word_8 ?_
  refine aw_iadd hK dX7_word_9 ?_
  refine aw_iconst hK (0) rfl dX7_word_10 ?_
  obtain ⟨m2, h1, hF⟩ := calv_some hF
  refine aw_cv hK 1 (as := [q_i ((m 0 1) + (1 : Int32)), q_i (0 : Int32)]) (tr_X1_begin h1) gX7_word_X1_begin rfl rfl rfl (by decide) (na := 2) (by decide +kernel) rfl ⟨by decide, by decide⟩ (Nat.zero_le _) (Nat.le_of_ble_eq_true rfl) dX7_word_11 ?_
  refine aw_iconst hK (0) rfl dX7_word_14 ?_
  refine aw_istore_n hK [(1, q_i (0 : Int32)), (0, q_r 0)] (by decide) rfl dX7_word_15 ?_
  refine aw_sub [1, 0] (lv' := [(0, q_r 0), (1, q_i (0 : Int32))]) rfl ?_
  exact lp_X7_word_16 hK hR _ hF
set_option maxRecDepth 100000 in
set_option maxHeartbeats 4000000 in
theorem lpN_X7_word_16 {N : Nat} {K : KT} {m' : Mem} {r : Int32} (hK : KOK K cX7_word 2 RX7 wsX7_word 7 0 114) (hR : KRet K (some .int) (some r) m') : ∀ (f : Nat) {m : Mem} {x1 : Int32}, L_X7_word_16 N f m x1 = some (.inl r, m') → AW K 0 16 [(0, q_r 0), (1, q_i x1)] [] m := by
  intro f
  induction f with
  | zero => intro m x1 hF; cases hF
  | succ f hrec_16 =>
    intro m x1 hF
    have hF : S_X7_word_16 N (L_X7_word_16 N f) m x1 = some (.inl r, m') := hF
    unfold S_X7_word_16 at hF
    refine aw_iload_n hK 1 rfl dX7_word_16 ?_
    refine aw_aload_n hK 0 rfl dX7_word_17 ?_
    refine gf_7_1 hK rfl (List.mem_of_getElem? (i := 2) rfl) dX7_word_18 ?_
    refine aw_icmp_ge hK 54 rfl dX7_word_21 (fun hc => ?_) (fun hc => ?_)
    · have hF := if_t hF hc
      refine aw_aload_n hK 0 rfl dX7_word_54 ?_
      refine gf_7_4 hK rfl (3) rfl (List.mem_of_getElem? (i := 1) rfl) dX7_word_55 ?_
      refine aw_aload_n hK 0 rfl dX7_word_58 ?_
      refine gf_7_1 hK rfl (List.mem_of_getElem? (i := 2) rfl) dX7_word_59 ?_
      obtain ⟨m4, h3, hF⟩ := calv_some hF
      refine aw_cv hK 1 (as := [q_i (m 0 1)]) (tr_X1_addEnd h3) gX7_word_X1_addEnd rfl rfl rfl (by decide) (na := 1) (by decide +kernel) rfl ⟨by decide, by decide⟩ (Nat.zero_le _) (Nat.le_of_ble_eq_true rfl) dX7_word_62 ?_
      refine aw_aload_n hK 0 rfl dX7_word_65 ?_
      rcases calx_some hF with ⟨r7, m6, h5, hF⟩ | ⟨x_8, m6, h5, hF⟩
      · refine aw_cv hK 7 (as := []) (trN_X7_keepDraft h5) gX7_word_X7_keepDraft rfl rfl rfl (by decide) (na := 0) (by decide +kernel) rfl ⟨by decide, by decide⟩ (Nat.zero_le _) (Nat.le_of_ble_eq_true rfl) dX7_word_66 ?_
        obtain ⟨e1, rfl⟩ := so_inj hF
        cases e1
        exact aw_iret hK hR rfl dX7_word_69
      · cases hF
    · have hF := if_f hF hc
      refine aw_aload_n hK 0 rfl dX7_word_24 ?_
      refine gf_7_4 hK rfl (3) rfl (List.mem_of_getElem? (i := 1) rfl) dX7_word_25 ?_
      refine aw_iload_n hK 1 rfl dX7_word_28 ?_
      refine aw_aload_n hK 0 rfl dX7_word_29 ?_
      refine gf_7_0 hK rfl (1) rfl (List.mem_of_getElem? (i := 3) rfl) dX7_word_30 ?_
      refine aw_iload_n hK 1 rfl dX7_word_33 ?_
      obtain ⟨g9, hF⟩ := gd_some hF
      refine aw_iald hK rfl g9 dX7_word_34 ?_
      refine aw_aload_n hK 0 rfl dX7_word_35 ?_
      refine gf_7_0 hK rfl (1) rfl (List.mem_of_getElem? (i := 3) rfl) dX7_word_36 ?_
      refine aw_iload_n hK 1 rfl dX7_word_39 ?_
      obtain ⟨g10, hF⟩ := gd_some hF
      refine aw_iald hK rfl g10 dX7_word_40 ?_
      refine aw_iconst hK (0) rfl dX7_word_41 ?_
      refine aw_iload_n hK 1 rfl dX7_word_42 ?_
      refine aw_iconst hK (1) rfl dX7_word_43 ?_
      refine aw_iadd hK dX7_word_44 ?_
      obtain ⟨m12, h11, hF⟩ := calv_some hF
      refine aw_cv hK 1 (as := [q_i x1, q_i (m 1 (ix x1)), q_i (m 1 (ix x1)), q_i (0 : Int32), q_i (x1 + (1 : Int32))]) (tr_X1_addArc h11) gX7_word_X1_addArc rfl rfl rfl (by decide) (na := 5) (by decide +kernel) rfl ⟨by decide, by decide⟩ (Nat.zero_le _) (Nat.le_of_ble_eq_true rfl) dX7_word_45 ?_
      obtain ⟨y13, hy13, hF⟩ := bnd_some hF
      refine aw_iinc hK (cz := 1) 1 [(1, q_i y13), (0, q_r 0)] (by decide) rfl rfl hy13 rfl dX7_word_48 ?_
      refine aw_goto hK 16 rfl dX7_word_51 ?_
      refine aw_sub [1, 0] (lv' := [(0, q_r 0), (1, q_i y13)]) rfl ?_
      exact hrec_16 hF
set_option maxRecDepth 100000 in
set_option maxHeartbeats 4000000 in
theorem trN_X7_word {N : Nat} {m m' : Mem} {r : Int32} (hF : F_X7_word N m = some (.inl r, m')) : Tr yX7_word wsX7_word 7 114 [q_r 0] m (some r) m' := by
  refine tr_of (bytes := cX7_word) (maxL := 2) (ret := (some .int)) (by decide) rfl (Nat.le_of_ble_eq_true rfl) (fun K hK hR => ?_)
  have hK : KOK K cX7_word 2 RX7 wsX7_word 7 0 114 := hK
  show AW K 0 0 [(0, q_r 0)] [] m
  unfold F_X7_word at hF
  refine aw_aload_n hK 0 rfl dX7_word_0 ?_
  refine gf_7_4 hK rfl (3) rfl (List.mem_of_getElem? (i := 1) rfl) dX7_word_1 ?_
  refine aw_aload_n hK 0 rfl dX7_word_4 ?_
  refine gf_7_1 hK rfl (List.mem_of_getElem? (i := 2) rfl) dX7_word_5 ?_
  refine aw_iconst hK (1) rfl dX7_word_8 ?_
  refine aw_iadd hK dX7_word_9 ?_
  refine aw_iconst hK (0) rfl dX7_word_10 ?_
  obtain ⟨m2, h1, hF⟩ := calv_some hF
  refine aw_cv hK 1 (as := [q_i ((m 0 1) + (1 : Int32)), q_i (0 : Int32)]) (tr_X1_begin h1) gX7_word_X1_begin rfl rfl rfl (by decide) (na := 2) (by decide +kernel) rfl ⟨by decide, by decide⟩ (Nat.zero_le _) (Nat.le_of_ble_eq_true rfl) dX7_word_11 ?_
  refine aw_iconst hK (0) rfl dX7_word_14 ?_
  refine aw_istore_n hK [(1, q_i (0 : Int32)), (0, q_r 0)] (by decide) rfl dX7_word_15 ?_
  refine aw_sub [1, 0] (lv' := [(0, q_r 0), (1, q_i (0 : Int32))]) rfl ?_
  exact lpN_X7_word_16 hK hR _ hF
def S_X7_any_11 (N : Nat) (rec_11 : Mem → Int32 → Option ((Int32 ⊕ Nat) × Mem)) (m : Mem) (x1 : Int32) : Option ((Int32 ⊕ Nat) × Mem) :=
  if (8 : Int32) ≤ x1 then (
    calv (F_X1_addEnd N m (1 : Int32)) fun m4 =>
    calx (F_X7_keepDraft N m4) fun r7 m6 =>
    some (.inl r7, m6)
  ) else (
    calv (F_X1_addArc N m (0 : Int32) x1 x1 (0 : Int32) (1 : Int32)) fun m10 =>
    bnd (x1 + (1 : Int32)) fun y11 =>
    rec_11 m10 y11
  )
def L_X7_any_11 (N : Nat) : Nat → Mem → Int32 → Option ((Int32 ⊕ Nat) × Mem)
  | 0 => fun _ _ => none
  | f + 1 => S_X7_any_11 N (L_X7_any_11 N f)
set_option maxRecDepth 100000 in
set_option maxHeartbeats 4000000 in
theorem lp_X7_any_11 {N : Nat} {K : KT} {m' : Mem} {res : Int32 ⊕ Nat} (hK : KOK K cX7_any 2 RX7 wsX7_any 7 1 114) (hR : KX K (some .int) (xo true res) m' 1) : ∀ (f : Nat) {m : Mem} {x1 : Int32}, L_X7_any_11 N f m x1 = some (res, m') → AW K 0 11 [(0, q_r 0), (1, q_i x1)] [] m := by
  intro f
  induction f with
  | zero => intro m x1 hF; cases hF
  | succ f hrec_11 =>
    intro m x1 hF
    have hF : S_X7_any_11 N (L_X7_any_11 N f) m x1 = some (res, m') := hF
    unfold S_X7_any_11 at hF
    refine aw_iload_n hK 1 rfl dX7_any_11 ?_
    refine aw_bipush hK (8) rfl dX7_any_12 ?_
    refine aw_icmp_ge hK 35 rfl dX7_any_14 (fun hc => ?_) (fun hc => ?_)
    · have hF := if_t hF hc
      refine aw_aload_n hK 0 rfl dX7_any_35 ?_
      refine gf_7_4 hK rfl (3) rfl (List.mem_of_getElem? (i := 1) rfl) dX7_any_36 ?_
      refine aw_iconst hK (1) rfl dX7_any_39 ?_
      obtain ⟨m4, h3, hF⟩ := calv_some hF
      refine aw_cv hK 1 (as := [q_i (1 : Int32)]) (tr_X1_addEnd h3) gX7_any_X1_addEnd rfl rfl rfl (by decide) (na := 1) (by decide +kernel) rfl ⟨by decide, by decide⟩ (Nat.zero_le _) (Nat.le_of_ble_eq_true rfl) dX7_any_40 ?_
      refine aw_aload_n hK 0 rfl dX7_any_43 ?_
      rcases calx_some hF with ⟨r7, m6, h5, hF⟩ | ⟨x_8, m6, h5, hF⟩
      · refine aw_cvXr hK (kxb hR) 7 (as := []) (trX_X7_keepDraft h5) gX7_any_X7_keepDraft rfl rfl rfl (by decide) (na := 0) (by decide +kernel) rfl ⟨by decide, by decide⟩ (Nat.le_of_ble_eq_true rfl) (Nat.le_of_ble_eq_true rfl) dX7_any_44 ?_
        obtain ⟨rfl, rfl⟩ := so_inj hF
        exact aw_iretX hK hR rfl (Nat.le_of_ble_eq_true rfl) dX7_any_47
      · obtain ⟨rfl, rfl⟩ := Prod.mk.inj hF
        exact aw_cvXx hK hR 7 (as := []) (trX_X7_keepDraft h5) gX7_any_X7_keepDraft rfl rfl rfl (by decide) (na := 0) (by decide +kernel) rfl ⟨by decide, by decide⟩ (Nat.le_of_ble_eq_true rfl) (Nat.le_of_ble_eq_true rfl) dX7_any_44
    · have hF := if_f hF hc
      refine aw_aload_n hK 0 rfl dX7_any_17 ?_
      refine gf_7_4 hK rfl (3) rfl (List.mem_of_getElem? (i := 1) rfl) dX7_any_18 ?_
      refine aw_iconst hK (0) rfl dX7_any_21 ?_
      refine aw_iload_n hK 1 rfl dX7_any_22 ?_
      refine aw_iload_n hK 1 rfl dX7_any_23 ?_
      refine aw_iconst hK (0) rfl dX7_any_24 ?_
      refine aw_iconst hK (1) rfl dX7_any_25 ?_
      obtain ⟨m10, h9, hF⟩ := calv_some hF
      refine aw_cv hK 1 (as := [q_i (0 : Int32), q_i x1, q_i x1, q_i (0 : Int32), q_i (1 : Int32)]) (tr_X1_addArc h9) gX7_any_X1_addArc rfl rfl rfl (by decide) (na := 5) (by decide +kernel) rfl ⟨by decide, by decide⟩ (Nat.zero_le _) (Nat.le_of_ble_eq_true rfl) dX7_any_26 ?_
      obtain ⟨y11, hy11, hF⟩ := bnd_some hF
      refine aw_iinc hK (cz := 1) 1 [(1, q_i y11), (0, q_r 0)] (by decide) rfl rfl hy11 rfl dX7_any_29 ?_
      refine aw_goto hK 11 rfl dX7_any_32 ?_
      refine aw_sub [1, 0] (lv' := [(0, q_r 0), (1, q_i y11)]) rfl ?_
      exact hrec_11 hF
def F_X7_any (N : Nat) (m : Mem) : Option ((Int32 ⊕ Nat) × Mem) :=
  calv (F_X1_begin N m (2 : Int32) (0 : Int32)) fun m2 =>
  L_X7_any_11 N N m2 (0 : Int32)
set_option maxRecDepth 100000 in
set_option maxHeartbeats 4000000 in
theorem trX_X7_any {N : Nat} {m m' : Mem} {res : Int32 ⊕ Nat} (hF : F_X7_any N m = some (res, m')) : TrX yX7_any wsX7_any 7 114 1 [q_r 0] m (xo true res) m' := by
  refine trX_of (bytes := cX7_any) (maxL := 2) (ret := (some .int)) (by decide) rfl (Nat.le_of_ble_eq_true rfl) (fun K hK hR => ?_)
  have hK : KOK K cX7_any 2 RX7 wsX7_any 7 1 114 := hK
  show AW K 0 0 [(0, q_r 0)] [] m
  unfold F_X7_any at hF
  refine aw_aload_n hK 0 rfl dX7_any_0 ?_
  refine gf_7_4 hK rfl (3) rfl (List.mem_of_getElem? (i := 1) rfl) dX7_any_1 ?_
  refine aw_iconst hK (2) rfl dX7_any_4 ?_
  refine aw_iconst hK (0) rfl dX7_any_5 ?_
  obtain ⟨m2, h1, hF⟩ := calv_some hF
  refine aw_cv hK 1 (as := [q_i (2 : Int32), q_i (0 : Int32)]) (tr_X1_begin h1) gX7_any_X1_begin rfl rfl rfl (by decide) (na := 2) (by decide +kernel) rfl ⟨by decide, by decide⟩ (Nat.zero_le _) (Nat.le_of_ble_eq_true rfl) dX7_any_6 ?_
  refine aw_iconst hK (0) rfl dX7_any_9 ?_
  refine aw_istore_n hK [(1, q_i (0 : Int32)), (0, q_r 0)] (by decide) rfl dX7_any_10 ?_
  refine aw_sub [1, 0] (lv' := [(0, q_r 0), (1, q_i (0 : Int32))]) rfl ?_
  exact lp_X7_any_11 hK hR _ hF
set_option maxRecDepth 100000 in
set_option maxHeartbeats 4000000 in
theorem lpN_X7_any_11 {N : Nat} {K : KT} {m' : Mem} {r : Int32} (hK : KOK K cX7_any 2 RX7 wsX7_any 7 0 114) (hR : KRet K (some .int) (some r) m') : ∀ (f : Nat) {m : Mem} {x1 : Int32}, L_X7_any_11 N f m x1 = some (.inl r, m') → AW K 0 11 [(0, q_r 0), (1, q_i x1)] [] m := by
  intro f
  induction f with
  | zero => intro m x1 hF; cases hF
  | succ f hrec_11 =>
    intro m x1 hF
    have hF : S_X7_any_11 N (L_X7_any_11 N f) m x1 = some (.inl r, m') := hF
    unfold S_X7_any_11 at hF
    refine aw_iload_n hK 1 rfl dX7_any_11 ?_
    refine aw_bipush hK (8) rfl dX7_any_12 ?_
    refine aw_icmp_ge hK 35 rfl dX7_any_14 (fun hc => ?_) (fun hc => ?_)
    · have hF := if_t hF hc
      refine aw_aload_n hK 0 rfl dX7_any_35 ?_
      refine gf_7_4 hK rfl (3) rfl (List.mem_of_getElem? (i := 1) rfl) dX7_any_36 ?_
      refine aw_iconst hK (1) rfl dX7_any_39 ?_
      obtain ⟨m4, h3, hF⟩ := calv_some hF
      refine aw_cv hK 1 (as := [q_i (1 : Int32)]) (tr_X1_addEnd h3) gX7_any_X1_addEnd rfl rfl rfl (by decide) (na := 1) (by decide +kernel) rfl ⟨by decide, by decide⟩ (Nat.zero_le _) (Nat.le_of_ble_eq_true rfl) dX7_any_40 ?_
      refine aw_aload_n hK 0 rfl dX7_any_43 ?_
      rcases calx_some hF with ⟨r7, m6, h5, hF⟩ | ⟨x_8, m6, h5, hF⟩
      · refine aw_cv hK 7 (as := []) (trN_X7_keepDraft h5) gX7_any_X7_keepDraft rfl rfl rfl (by decide) (na := 0) (by decide +kernel) rfl ⟨by decide, by decide⟩ (Nat.zero_le _) (Nat.le_of_ble_eq_true rfl) dX7_any_44 ?_
        obtain ⟨e1, rfl⟩ := so_inj hF
        cases e1
        exact aw_iret hK hR rfl dX7_any_47
      · cases hF
    · have hF := if_f hF hc
      refine aw_aload_n hK 0 rfl dX7_any_17 ?_
      refine gf_7_4 hK rfl (3) rfl (List.mem_of_getElem? (i := 1) rfl) dX7_any_18 ?_
      refine aw_iconst hK (0) rfl dX7_any_21 ?_
      refine aw_iload_n hK 1 rfl dX7_any_22 ?_
      refine aw_iload_n hK 1 rfl dX7_any_23 ?_
      refine aw_iconst hK (0) rfl dX7_any_24 ?_
      refine aw_iconst hK (1) rfl dX7_any_25 ?_
      obtain ⟨m10, h9, hF⟩ := calv_some hF
      refine aw_cv hK 1 (as := [q_i (0 : Int32), q_i x1, q_i x1, q_i (0 : Int32), q_i (1 : Int32)]) (tr_X1_addArc h9) gX7_any_X1_addArc rfl rfl rfl (by decide) (na := 5) (by decide +kernel) rfl ⟨by decide, by decide⟩ (Nat.zero_le _) (Nat.le_of_ble_eq_true rfl) dX7_any_26 ?_
      obtain ⟨y11, hy11, hF⟩ := bnd_some hF
      refine aw_iinc hK (cz := 1) 1 [(1, q_i y11), (0, q_r 0)] (by decide) rfl rfl hy11 rfl dX7_any_29 ?_
      refine aw_goto hK 11 rfl dX7_any_32 ?_
      refine aw_sub [1, 0] (lv' := [(0, q_r 0), (1, q_i y11)]) rfl ?_
      exact hrec_11 hF
set_option maxRecDepth 100000 in
set_option maxHeartbeats 4000000 in
theorem trN_X7_any {N : Nat} {m m' : Mem} {r : Int32} (hF : F_X7_any N m = some (.inl r, m')) : Tr yX7_any wsX7_any 7 114 [q_r 0] m (some r) m' := by
  refine tr_of (bytes := cX7_any) (maxL := 2) (ret := (some .int)) (by decide) rfl (Nat.le_of_ble_eq_true rfl) (fun K hK hR => ?_)
  have hK : KOK K cX7_any 2 RX7 wsX7_any 7 0 114 := hK
  show AW K 0 0 [(0, q_r 0)] [] m
  unfold F_X7_any at hF
  refine aw_aload_n hK 0 rfl dX7_any_0 ?_
  refine gf_7_4 hK rfl (3) rfl (List.mem_of_getElem? (i := 1) rfl) dX7_any_1 ?_
  refine aw_iconst hK (2) rfl dX7_any_4 ?_
  refine aw_iconst hK (0) rfl dX7_any_5 ?_
  obtain ⟨m2, h1, hF⟩ := calv_some hF
  refine aw_cv hK 1 (as := [q_i (2 : Int32), q_i (0 : Int32)]) (tr_X1_begin h1) gX7_any_X1_begin rfl rfl rfl (by decide) (na := 2) (by decide +kernel) rfl ⟨by decide, by decide⟩ (Nat.zero_le _) (Nat.le_of_ble_eq_true rfl) dX7_any_6 ?_
  refine aw_iconst hK (0) rfl dX7_any_9 ?_
  refine aw_istore_n hK [(1, q_i (0 : Int32)), (0, q_r 0)] (by decide) rfl dX7_any_10 ?_
  refine aw_sub [1, 0] (lv' := [(0, q_r 0), (1, q_i (0 : Int32))]) rfl ?_
  exact lpN_X7_any_11 hK hR _ hF
def B_X7_needMachine_12 (N : Nat) (m : Mem) : Option ((Int32 ⊕ Nat) × Mem) :=
  some (.inr 2, m)
set_option maxRecDepth 100000 in
set_option maxHeartbeats 4000000 in
theorem bk_X7_needMachine_12 {N : Nat} {K : KT} {m' : Mem} {res : Int32 ⊕ Nat} (hK : KOK K cX7_needMachine 2 RX7 wsX7_needMachine 6 1 90) (hR : KX K none (xo false res) m' 1) {m : Mem} (hF : B_X7_needMachine_12 N m = some (res, m')) : AW K 0 12 [] [] m := by
  unfold B_X7_needMachine_12 at hF
  obtain ⟨rfl, rfl⟩ := so_inj hF
  exact aw_throwW (ik := 201) (ic := 205) (x := 2) hK hR (by decide) (List.mem_of_getElem? (i := 1) rfl) (List.mem_of_getElem? (i := 2) rfl) (List.mem_of_getElem? (i := 14) rfl) (by decide +kernel) (by decide +kernel) (by decide +kernel) (by decide +kernel) ⟨by decide, by decide⟩ (Nat.le_of_ble_eq_true rfl) (Nat.le_of_ble_eq_true rfl) dX7_needMachine_12 dX7_needMachine_15 dX7_needMachine_16 dX7_needMachine_19 dX7_needMachine_22
def F_X7_needMachine (N : Nat) (m : Mem) (x1 : Int32) : Option ((Int32 ⊕ Nat) × Mem) :=
  if x1 < (0 : Int32) then (
    B_X7_needMachine_12 N m
  ) else (
    if x1 < (m 0 3) then (
      some (.inl 0, m)
    ) else (
      B_X7_needMachine_12 N m
    )
  )
set_option maxRecDepth 100000 in
set_option maxHeartbeats 4000000 in
theorem trX_X7_needMachine {N : Nat} {m m' : Mem} {res : Int32 ⊕ Nat} {x1 : Int32} (hF : F_X7_needMachine N m x1 = some (res, m')) : TrX yX7_needMachine wsX7_needMachine 6 90 1 [q_r 0, q_i x1] m (xo false res) m' := by
  refine trX_of (bytes := cX7_needMachine) (maxL := 2) (ret := none) (by decide) rfl (Nat.le_of_ble_eq_true rfl) (fun K hK hR => ?_)
  have hK : KOK K cX7_needMachine 2 RX7 wsX7_needMachine 6 1 90 := hK
  show AW K 0 0 [(0, q_r 0), (1, q_i x1)] [] m
  unfold F_X7_needMachine at hF
  refine aw_iload_n hK 1 rfl dX7_needMachine_0 ?_
  refine aw_if_lt hK 12 rfl dX7_needMachine_1 (fun hc => ?_) (fun hc => ?_)
  · have hF := if_t hF hc
    refine aw_sub [] (lv' := []) rfl ?_
    exact bk_X7_needMachine_12 hK hR hF
  · have hF := if_f hF hc
    refine aw_iload_n hK 1 rfl dX7_needMachine_4 ?_
    refine aw_aload_n hK 0 rfl dX7_needMachine_5 ?_
    refine gf_7_3 hK rfl (List.mem_of_getElem? (i := 3) rfl) dX7_needMachine_6 ?_
    refine aw_icmp_lt hK 23 rfl dX7_needMachine_9 (fun hc => ?_) (fun hc => ?_)
    · have hF := if_t hF hc
      obtain ⟨rfl, rfl⟩ := so_inj hF
      exact aw_vretX hK hR (Nat.le_of_ble_eq_true rfl) dX7_needMachine_23
    · have hF := if_f hF hc
      refine aw_sub [] (lv' := []) rfl ?_
      exact bk_X7_needMachine_12 hK hR hF
set_option maxRecDepth 100000 in
set_option maxHeartbeats 4000000 in
theorem bkN_X7_needMachine_12 {N : Nat} {K : KT} {m' : Mem} {r : Int32} (hK : KOK K cX7_needMachine 2 RX7 wsX7_needMachine 6 0 90) (hR : KRet K none none m') {m : Mem} (hF : B_X7_needMachine_12 N m = some (.inl r, m')) : AW K 0 12 [] [] m := by
  unfold B_X7_needMachine_12 at hF
  cases hF
set_option maxRecDepth 100000 in
set_option maxHeartbeats 4000000 in
theorem trN_X7_needMachine {N : Nat} {m m' : Mem} {r : Int32} {x1 : Int32} (hF : F_X7_needMachine N m x1 = some (.inl r, m')) : Tr yX7_needMachine wsX7_needMachine 6 90 [q_r 0, q_i x1] m none m' := by
  refine tr_of (bytes := cX7_needMachine) (maxL := 2) (ret := none) (by decide) rfl (Nat.le_of_ble_eq_true rfl) (fun K hK hR => ?_)
  have hK : KOK K cX7_needMachine 2 RX7 wsX7_needMachine 6 0 90 := hK
  show AW K 0 0 [(0, q_r 0), (1, q_i x1)] [] m
  unfold F_X7_needMachine at hF
  refine aw_iload_n hK 1 rfl dX7_needMachine_0 ?_
  refine aw_if_lt hK 12 rfl dX7_needMachine_1 (fun hc => ?_) (fun hc => ?_)
  · have hF := if_t hF hc
    refine aw_sub [] (lv' := []) rfl ?_
    exact bkN_X7_needMachine_12 hK hR hF
  · have hF := if_f hF hc
    refine aw_iload_n hK 1 rfl dX7_needMachine_4 ?_
    refine aw_aload_n hK 0 rfl dX7_needMachine_5 ?_
    refine gf_7_3 hK rfl (List.mem_of_getElem? (i := 3) rfl) dX7_needMachine_6 ?_
    refine aw_icmp_lt hK 23 rfl dX7_needMachine_9 (fun hc => ?_) (fun hc => ?_)
    · have hF := if_t hF hc
      obtain ⟨e1, rfl⟩ := so_inj hF
      exact aw_vret hK hR dX7_needMachine_23
    · have hF := if_f hF hc
      refine aw_sub [] (lv' := []) rfl ?_
      exact bkN_X7_needMachine_12 hK hR hF
def F_X7_join (N : Nat) (m : Mem) (x1 : Int32) (x2 : Int32) : Option ((Int32 ⊕ Nat) × Mem) :=
  calx (F_X7_needMachine N m x1) fun r3 m2 =>
  calx (F_X7_needMachine N m2 x2) fun r7 m6 =>
  gd (inb x1 (alen 2)) <|
  bnd (200 + 4 * ix x1) fun q10 =>
  gd (inb x2 (alen 2)) <|
  bnd (200 + 4 * ix x2) fun q12 =>
  calv (F_X1_begin N m6 ((m6 q10 1) + (m6 q12 1)) (0 : Int32)) fun m14 =>
  calv (F_X1_addArcsOf N m14 q10 (0 : Int32)) fun m16 =>
  calv (F_X1_addArcsOf N m16 q12 (m16 q10 1)) fun m18 =>
  calv (F_X1_leadFromEndsOf N m18 q10 (0 : Int32) (m18 q10 1)) fun m20 =>
  calv (F_X1_addEndsOf N m20 q12 (m20 q10 1)) fun m22 =>
  calx (F_X7_keepDraft N m22) fun r25 m24 =>
  some (.inl r25, m24)
set_option maxRecDepth 100000 in
set_option maxHeartbeats 4000000 in
theorem trX_X7_join {N : Nat} {m m' : Mem} {res : Int32 ⊕ Nat} {x1 : Int32} {x2 : Int32} (hF : F_X7_join N m x1 x2 = some (res, m')) : TrX yX7_join wsX7_join 7 114 3 [q_r 0, q_i x1, q_i x2] m (xo true res) m' := by
  refine trX_of (bytes := cX7_join) (maxL := 5) (ret := (some .int)) (by decide) rfl (Nat.le_of_ble_eq_true rfl) (fun K hK hR => ?_)
  have hK : KOK K cX7_join 5 RX7 wsX7_join 7 3 114 := hK
  show AW K 0 0 [(0, q_r 0), (1, q_i x1), (2, q_i x2)] [] m
  unfold F_X7_join at hF
  refine aw_aload_n hK 0 rfl dX7_join_0 ?_
  refine aw_iload_n hK 1 rfl dX7_join_1 ?_
  rcases calx_some hF with ⟨r3, m2, h1, hF⟩ | ⟨x_4, m2, h1, hF⟩
  · refine aw_cvXr hK (kxb hR) 7 (as := [q_i x1]) (trX_X7_needMachine h1) gX7_join_X7_needMachine rfl rfl rfl (by decide) (na := 1) (by decide +kernel) rfl ⟨by decide, by decide⟩ (Nat.le_of_ble_eq_true rfl) (Nat.le_of_ble_eq_true rfl) dX7_join_2 ?_
    refine aw_aload_n hK 0 rfl dX7_join_5 ?_
    refine aw_iload_n hK 2 rfl dX7_join_6 ?_
    rcases calx_some hF with ⟨r7, m6, h5, hF⟩ | ⟨x_8, m6, h5, hF⟩
    · refine aw_cvXr hK (kxb hR) 7 (as := [q_i x2]) (trX_X7_needMachine h5) gX7_join_X7_needMachine rfl rfl rfl (by decide) (na := 1) (by decide +kernel) rfl ⟨by decide, by decide⟩ (Nat.le_of_ble_eq_true rfl) (Nat.le_of_ble_eq_true rfl) dX7_join_7 ?_
      refine aw_aload_n hK 0 rfl dX7_join_10 ?_
      refine gf_7_2 hK rfl (2) rfl (List.mem_of_getElem? (i := 1) rfl) dX7_join_11 ?_
      refine aw_iload_n hK 1 rfl dX7_join_14 ?_
      obtain ⟨g9, hF⟩ := gd_some hF
      refine aw_aald hK rfl g9 dX7_join_15 ?_
      obtain ⟨q10, hq10, hF⟩ := bnd_some hF
      refine aw_nr hq10 ?_
      refine aw_astore_n hK [(3, q_r q10), (0, q_r 0), (1, q_i x1), (2, q_i x2)] (by decide) rfl dX7_join_16 ?_
      refine aw_aload_n hK 1 rfl dX7_join_17 ?_
      refine gf_7_2 hK rfl (2) rfl (List.mem_of_getElem? (i := 1) rfl) dX7_join_18 ?_
      refine aw_iload_n hK 3 rfl dX7_join_21 ?_
      obtain ⟨g11, hF⟩ := gd_some hF
      refine aw_aald hK rfl g11 dX7_join_22 ?_
      obtain ⟨q12, hq12, hF⟩ := bnd_some hF
      refine aw_nr hq12 ?_
      refine aw_astore hK [(4, q_r q12), (3, q_r q10), (0, q_r 0), (1, q_i x1), (2, q_i x2)] (by decide) rfl dX7_join_23 ?_
      refine aw_aload_n hK 2 rfl dX7_join_25 ?_
      refine gf_7_4 hK rfl (3) rfl (List.mem_of_getElem? (i := 2) rfl) dX7_join_26 ?_
      refine aw_aload_n hK 1 rfl dX7_join_29 ?_
      refine gf_3_1 hK (hq10 ▸ (kMi g9)) (List.mem_of_getElem? (i := 3) rfl) dX7_join_30 ?_
      refine aw_aload hK 0 rfl dX7_join_33 ?_
      refine gf_3_1 hK (hq12 ▸ (kMi g11)) (List.mem_of_getElem? (i := 3) rfl) dX7_join_35 ?_
      refine aw_iadd hK dX7_join_38 ?_
      refine aw_iconst hK (0) rfl dX7_join_39 ?_
      obtain ⟨m14, h13, hF⟩ := calv_some hF
      refine aw_cv hK 1 (as := [q_i ((m6 q10 1) + (m6 q12 1)), q_i (0 : Int32)]) (tr_X1_begin h13) gX7_join_X1_begin rfl rfl rfl (by decide) (na := 2) (by decide +kernel) rfl ⟨by decide, by decide⟩ (Nat.le_of_ble_eq_true rfl) (Nat.le_of_ble_eq_true rfl) dX7_join_40 ?_
      refine aw_aload_n hK 2 rfl dX7_join_43 ?_
      refine gf_7_4 hK rfl (3) rfl (List.mem_of_getElem? (i := 2) rfl) dX7_join_44 ?_
      refine aw_aload_n hK 1 rfl dX7_join_47 ?_
      refine aw_iconst hK (0) rfl dX7_join_48 ?_
      obtain ⟨m16, h15, hF⟩ := calv_some hF
      refine aw_cv hK 1 (as := [q_r q10, q_i (0 : Int32)]) (tr_X1_addArcsOf (hq10 ▸ (kMi g9)) h15) gX7_join_X1_addArcsOf rfl rfl rfl (by decide) (na := 2) (by decide +kernel) rfl ⟨by decide, by decide⟩ (Nat.le_of_ble_eq_true rfl) (Nat.le_of_ble_eq_true rfl) dX7_join_49 ?_
      refine aw_aload_n hK 2 rfl dX7_join_52 ?_
      refine gf_7_4 hK rfl (3) rfl (List.mem_of_getElem? (i := 2) rfl) dX7_join_53 ?_
      refine aw_aload hK 0 rfl dX7_join_56 ?_
      refine aw_aload_n hK 1 rfl dX7_join_58 ?_
      refine gf_3_1 hK (hq10 ▸ (kMi g9)) (List.mem_of_getElem? (i := 3) rfl) dX7_join_59 ?_
      obtain ⟨m18, h17, hF⟩ := calv_some hF
      refine aw_cv hK 1 (as := [q_r q12, q_i (m16 q10 1)]) (tr_X1_addArcsOf (hq12 ▸ (kMi g11)) h17) gX7_join_X1_addArcsOf rfl rfl rfl (by decide) (na := 2) (by decide +kernel) rfl ⟨by decide, by decide⟩ (Nat.le_of_ble_eq_true rfl) (Nat.le_of_ble_eq_true rfl) dX7_join_62 ?_
      refine aw_aload_n hK 2 rfl dX7_join_65 ?_
      refine gf_7_4 hK rfl (3) rfl (List.mem_of_getElem? (i := 2) rfl) dX7_join_66 ?_
      refine aw_aload_n hK 1 rfl dX7_join_69 ?_
      refine aw_iconst hK (0) rfl dX7_join_70 ?_
      refine aw_aload_n hK 1 rfl dX7_join_71 ?_
      refine gf_3_1 hK (hq10 ▸ (kMi g9)) (List.mem_of_getElem? (i := 3) rfl) dX7_join_72 ?_
      obtain ⟨m20, h19, hF⟩ := calv_some hF
      refine aw_cv hK 1 (as := [q_r q10, q_i (0 : Int32), q_i (m18 q10 1)]) (tr_X1_leadFromEndsOf (hq10 ▸ (kMi g9)) h19) gX7_join_X1_leadFromEndsOf rfl rfl rfl (by decide) (na := 3) (by decide +kernel) rfl ⟨by decide, by decide⟩ (Nat.le_of_ble_eq_true rfl) (Nat.le_of_ble_eq_true rfl) dX7_join_75 ?_
      refine aw_aload_n hK 2 rfl dX7_join_78 ?_
      refine gf_7_4 hK rfl (3) rfl (List.mem_of_getElem? (i := 2) rfl) dX7_join_79 ?_
      refine aw_aload hK 0 rfl dX7_join_82 ?_
      refine aw_aload_n hK 1 rfl dX7_join_84 ?_
      refine gf_3_1 hK (hq10 ▸ (kMi g9)) (List.mem_of_getElem? (i := 3) rfl) dX7_join_85 ?_
      obtain ⟨m22, h21, hF⟩ := calv_some hF
      refine aw_cv hK 1 (as := [q_r q12, q_i (m20 q10 1)]) (tr_X1_addEndsOf (hq12 ▸ (kMi g11)) h21) gX7_join_X1_addEndsOf rfl rfl rfl (by decide) (na := 2) (by decide +kernel) rfl ⟨by decide, by decide⟩ (Nat.le_of_ble_eq_true rfl) (Nat.le_of_ble_eq_true rfl) dX7_join_88 ?_
      refine aw_aload_n hK 2 rfl dX7_join_91 ?_
      rcases calx_some hF with ⟨r25, m24, h23, hF⟩ | ⟨x_26, m24, h23, hF⟩
      · refine aw_cvXr hK (kxb hR) 7 (as := []) (trX_X7_keepDraft h23) gX7_join_X7_keepDraft rfl rfl rfl (by decide) (na := 0) (by decide +kernel) rfl ⟨by decide, by decide⟩ (Nat.le_of_ble_eq_true rfl) (Nat.le_of_ble_eq_true rfl) dX7_join_92 ?_
        obtain ⟨rfl, rfl⟩ := so_inj hF
        exact aw_iretX hK hR rfl (Nat.le_of_ble_eq_true rfl) dX7_join_95
      · obtain ⟨rfl, rfl⟩ := Prod.mk.inj hF
        exact aw_cvXx hK hR 7 (as := []) (trX_X7_keepDraft h23) gX7_join_X7_keepDraft rfl rfl rfl (by decide) (na := 0) (by decide +kernel) rfl ⟨by decide, by decide⟩ (Nat.le_of_ble_eq_true rfl) (Nat.le_of_ble_eq_true rfl) dX7_join_92
    · obtain ⟨rfl, rfl⟩ := Prod.mk.inj hF
      exact aw_cvXx hK hR 7 (as := [q_i x2]) (trX_X7_needMachine h5) gX7_join_X7_needMachine rfl rfl rfl (by decide) (na := 1) (by decide +kernel) rfl ⟨by decide, by decide⟩ (Nat.le_of_ble_eq_true rfl) (Nat.le_of_ble_eq_true rfl) dX7_join_7
  · obtain ⟨rfl, rfl⟩ := Prod.mk.inj hF
    exact aw_cvXx hK hR 7 (as := [q_i x1]) (trX_X7_needMachine h1) gX7_join_X7_needMachine rfl rfl rfl (by decide) (na := 1) (by decide +kernel) rfl ⟨by decide, by decide⟩ (Nat.le_of_ble_eq_true rfl) (Nat.le_of_ble_eq_true rfl) dX7_join_2
set_option maxRecDepth 100000 in
set_option maxHeartbeats 4000000 in
theorem trN_X7_join {N : Nat} {m m' : Mem} {r : Int32} {x1 : Int32} {x2 : Int32} (hF : F_X7_join N m x1 x2 = some (.inl r, m')) : Tr yX7_join wsX7_join 7 114 [q_r 0, q_i x1, q_i x2] m (some r) m' := by
  refine tr_of (bytes := cX7_join) (maxL := 5) (ret := (some .int)) (by decide) rfl (Nat.le_of_ble_eq_true rfl) (fun K hK hR => ?_)
  have hK : KOK K cX7_join 5 RX7 wsX7_join 7 0 114 := hK
  show AW K 0 0 [(0, q_r 0), (1, q_i x1), (2, q_i x2)] [] m
  unfold F_X7_join at hF
  refine aw_aload_n hK 0 rfl dX7_join_0 ?_
  refine aw_iload_n hK 1 rfl dX7_join_1 ?_
  rcases calx_some hF with ⟨r3, m2, h1, hF⟩ | ⟨x_4, m2, h1, hF⟩
  · refine aw_cv hK 7 (as := [q_i x1]) (trN_X7_needMachine h1) gX7_join_X7_needMachine rfl rfl rfl (by decide) (na := 1) (by decide +kernel) rfl ⟨by decide, by decide⟩ (Nat.zero_le _) (Nat.le_of_ble_eq_true rfl) dX7_join_2 ?_
    refine aw_aload_n hK 0 rfl dX7_join_5 ?_
    refine aw_iload_n hK 2 rfl dX7_join_6 ?_
    rcases calx_some hF with ⟨r7, m6, h5, hF⟩ | ⟨x_8, m6, h5, hF⟩
    · refine aw_cv hK 7 (as := [q_i x2]) (trN_X7_needMachine h5) gX7_join_X7_needMachine rfl rfl rfl (by decide) (na := 1) (by decide +kernel) rfl ⟨by decide, by decide⟩ (Nat.zero_le _) (Nat.le_of_ble_eq_true rfl) dX7_join_7 ?_
      refine aw_aload_n hK 0 rfl dX7_join_10 ?_
      refine gf_7_2 hK rfl (2) rfl (List.mem_of_getElem? (i := 1) rfl) dX7_join_11 ?_
      refine aw_iload_n hK 1 rfl dX7_join_14 ?_
      obtain ⟨g9, hF⟩ := gd_some hF
      refine aw_aald hK rfl g9 dX7_join_15 ?_
      obtain ⟨q10, hq10, hF⟩ := bnd_some hF
      refine aw_nr hq10 ?_
      refine aw_astore_n hK [(3, q_r q10), (0, q_r 0), (1, q_i x1), (2, q_i x2)] (by decide) rfl dX7_join_16 ?_
      refine aw_aload_n hK 1 rfl dX7_join_17 ?_
      refine gf_7_2 hK rfl (2) rfl (List.mem_of_getElem? (i := 1) rfl) dX7_join_18 ?_
      refine aw_iload_n hK 3 rfl dX7_join_21 ?_
      obtain ⟨g11, hF⟩ := gd_some hF
      refine aw_aald hK rfl g11 dX7_join_22 ?_
      obtain ⟨q12, hq12, hF⟩ := bnd_some hF
      refine aw_nr hq12 ?_
      refine aw_astore hK [(4, q_r q12), (3, q_r q10), (0, q_r 0), (1, q_i x1), (2, q_i x2)] (by decide) rfl dX7_join_23 ?_
      refine aw_aload_n hK 2 rfl dX7_join_25 ?_
      refine gf_7_4 hK rfl (3) rfl (List.mem_of_getElem? (i := 2) rfl) dX7_join_26 ?_
      refine aw_aload_n hK 1 rfl dX7_join_29 ?_
      refine gf_3_1 hK (hq10 ▸ (kMi g9)) (List.mem_of_getElem? (i := 3) rfl) dX7_join_30 ?_
      refine aw_aload hK 0 rfl dX7_join_33 ?_
      refine gf_3_1 hK (hq12 ▸ (kMi g11)) (List.mem_of_getElem? (i := 3) rfl) dX7_join_35 ?_
      refine aw_iadd hK dX7_join_38 ?_
      refine aw_iconst hK (0) rfl dX7_join_39 ?_
      obtain ⟨m14, h13, hF⟩ := calv_some hF
      refine aw_cv hK 1 (as := [q_i ((m6 q10 1) + (m6 q12 1)), q_i (0 : Int32)]) (tr_X1_begin h13) gX7_join_X1_begin rfl rfl rfl (by decide) (na := 2) (by decide +kernel) rfl ⟨by decide, by decide⟩ (Nat.zero_le _) (Nat.le_of_ble_eq_true rfl) dX7_join_40 ?_
      refine aw_aload_n hK 2 rfl dX7_join_43 ?_
      refine gf_7_4 hK rfl (3) rfl (List.mem_of_getElem? (i := 2) rfl) dX7_join_44 ?_
      refine aw_aload_n hK 1 rfl dX7_join_47 ?_
      refine aw_iconst hK (0) rfl dX7_join_48 ?_
      obtain ⟨m16, h15, hF⟩ := calv_some hF
      refine aw_cv hK 1 (as := [q_r q10, q_i (0 : Int32)]) (tr_X1_addArcsOf (hq10 ▸ (kMi g9)) h15) gX7_join_X1_addArcsOf rfl rfl rfl (by decide) (na := 2) (by decide +kernel) rfl ⟨by decide, by decide⟩ (Nat.zero_le _) (Nat.le_of_ble_eq_true rfl) dX7_join_49 ?_
      refine aw_aload_n hK 2 rfl dX7_join_52 ?_
      refine gf_7_4 hK rfl (3) rfl (List.mem_of_getElem? (i := 2) rfl) dX7_join_53 ?_
      refine aw_aload hK 0 rfl dX7_join_56 ?_
      refine aw_aload_n hK 1 rfl dX7_join_58 ?_
      refine gf_3_1 hK (hq10 ▸ (kMi g9)) (List.mem_of_getElem? (i := 3) rfl) dX7_join_59 ?_
      obtain ⟨m18, h17, hF⟩ := calv_some hF
      refine aw_cv hK 1 (as := [q_r q12, q_i (m16 q10 1)]) (tr_X1_addArcsOf (hq12 ▸ (kMi g11)) h17) gX7_join_X1_addArcsOf rfl rfl rfl (by decide) (na := 2) (by decide +kernel) rfl ⟨by decide, by decide⟩ (Nat.zero_le _) (Nat.le_of_ble_eq_true rfl) dX7_join_62 ?_
      refine aw_aload_n hK 2 rfl dX7_join_65 ?_
      refine gf_7_4 hK rfl (3) rfl (List.mem_of_getElem? (i := 2) rfl) dX7_join_66 ?_
      refine aw_aload_n hK 1 rfl dX7_join_69 ?_
      refine aw_iconst hK (0) rfl dX7_join_70 ?_
      refine aw_aload_n hK 1 rfl dX7_join_71 ?_
      refine gf_3_1 hK (hq10 ▸ (kMi g9)) (List.mem_of_getElem? (i := 3) rfl) dX7_join_72 ?_
      obtain ⟨m20, h19, hF⟩ := calv_some hF
      refine aw_cv hK 1 (as := [q_r q10, q_i (0 : Int32), q_i (m18 q10 1)]) (tr_X1_leadFromEndsOf (hq10 ▸ (kMi g9)) h19) gX7_join_X1_leadFromEndsOf rfl rfl rfl (by decide) (na := 3) (by decide +kernel) rfl ⟨by decide, by decide⟩ (Nat.zero_le _) (Nat.le_of_ble_eq_true rfl) dX7_join_75 ?_
      refine aw_aload_n hK 2 rfl dX7_join_78 ?_
      refine gf_7_4 hK rfl (3) rfl (List.mem_of_getElem? (i := 2) rfl) dX7_join_79 ?_
      refine aw_aload hK 0 rfl dX7_join_82 ?_
      refine aw_aload_n hK 1 rfl dX7_join_84 ?_
      refine gf_3_1 hK (hq10 ▸ (kMi g9)) (List.mem_of_getElem? (i := 3) rfl) dX7_join_85 ?_
      obtain ⟨m22, h21, hF⟩ := calv_some hF
      refine aw_cv hK 1 (as := [q_r q12, q_i (m20 q10 1)]) (tr_X1_addEndsOf (hq12 ▸ (kMi g11)) h21) gX7_join_X1_addEndsOf rfl rfl rfl (by decide) (na := 2) (by decide +kernel) rfl ⟨by decide, by decide⟩ (Nat.zero_le _) (Nat.le_of_ble_eq_true rfl) dX7_join_88 ?_
      refine aw_aload_n hK 2 rfl dX7_join_91 ?_
      rcases calx_some hF with ⟨r25, m24, h23, hF⟩ | ⟨x_26, m24, h23, hF⟩
      · refine aw_cv hK 7 (as := []) (trN_X7_keepDraft h23) gX7_join_X7_keepDraft rfl rfl rfl (by decide) (na := 0) (by decide +kernel) rfl ⟨by decide, by decide⟩ (Nat.zero_le _) (Nat.le_of_ble_eq_true rfl) dX7_join_92 ?_
        obtain ⟨e1, rfl⟩ := so_inj hF
        cases e1
        exact aw_iret hK hR rfl dX7_join_95
      · cases hF
    · cases hF
  · cases hF
def F_X7_unite (N : Nat) (m : Mem) (x1 : Int32) (x2 : Int32) : Option ((Int32 ⊕ Nat) × Mem) :=
  calx (F_X7_needMachine N m x1) fun r3 m2 =>
  calx (F_X7_needMachine N m2 x2) fun r7 m6 =>
  gd (inb x1 (alen 2)) <|
  bnd (200 + 4 * ix x1) fun q10 =>
  gd (inb x2 (alen 2)) <|
  bnd (200 + 4 * ix x2) fun q12 =>
  bnd ((m6 q10 1) + (m6 q12 1)) fun y13 =>
  calv (F_X1_begin N m6 (y13 + (1 : Int32)) y13) fun m15 =>
  calv (F_X1_addArcsOf N m15 q10 (0 : Int32)) fun m17 =>
  calv (F_X1_addArcsOf N m17 q12 (m17 q10 1)) fun m19 =>
  calv (F_X1_addEndsOf N m19 q10 (0 : Int32)) fun m21 =>
  calv (F_X1_addEndsOf N m21 q12 (m21 q10 1)) fun m23 =>
  calv (F_X1_addArc N m23 y13 (8 : Int32) (8 : Int32) (0 : Int32) (0 : Int32)) fun m25 =>
  calv (F_X1_addArc N m25 y13 (8 : Int32) (8 : Int32) (0 : Int32) (m25 q10 1)) fun m27 =>
  calx (F_X7_keepDraft N m27) fun r30 m29 =>
  some (.inl r30, m29)
set_option maxRecDepth 100000 in
set_option maxHeartbeats 4000000 in
theorem trX_X7_unite {N : Nat} {m m' : Mem} {res : Int32 ⊕ Nat} {x1 : Int32} {x2 : Int32} (hF : F_X7_unite N m x1 x2 = some (res, m')) : TrX yX7_unite wsX7_unite 7 114 3 [q_r 0, q_i x1, q_i x2] m (xo true res) m' := by
  refine trX_of (bytes := cX7_unite) (maxL := 6) (ret := (some .int)) (by decide) rfl (Nat.le_of_ble_eq_true rfl) (fun K hK hR => ?_)
  have hK : KOK K cX7_unite 6 RX7 wsX7_unite 7 3 114 := hK
  show AW K 0 0 [(0, q_r 0), (1, q_i x1), (2, q_i x2)] [] m
  unfold F_X7_unite at hF
  refine aw_aload_n hK 0 rfl dX7_unite_0 ?_
  refine aw_iload_n hK 1 rfl dX7_unite_1 ?_
  rcases calx_some hF with ⟨r3, m2, h1, hF⟩ | ⟨x_4, m2, h1, hF⟩
  · refine aw_cvXr hK (kxb hR) 7 (as := [q_i x1]) (trX_X7_needMachine h1) gX7_unite_X7_needMachine rfl rfl rfl (by decide) (na := 1) (by decide +kernel) rfl ⟨by decide, by decide⟩ (Nat.le_of_ble_eq_true rfl) (Nat.le_of_ble_eq_true rfl) dX7_unite_2 ?_
    refine aw_aload_n hK 0 rfl dX7_unite_5 ?_
    refine aw_iload_n hK 2 rfl dX7_unite_6 ?_
    rcases calx_some hF with ⟨r7, m6, h5, hF⟩ | ⟨x_8, m6, h5, hF⟩
    · refine aw_cvXr hK (kxb hR) 7 (as := [q_i x2]) (trX_X7_needMachine h5) gX7_unite_X7_needMachine rfl rfl rfl (by decide) (na := 1) (by decide +kernel) rfl ⟨by decide, by decide⟩ (Nat.le_of_ble_eq_true rfl) (Nat.le_of_ble_eq_true rfl) dX7_unite_7 ?_
      refine aw_aload_n hK 0 rfl dX7_unite_10 ?_
      refine gf_7_2 hK rfl (2) rfl (List.mem_of_getElem? (i := 1) rfl) dX7_unite_11 ?_
      refine aw_iload_n hK 1 rfl dX7_unite_14 ?_
      obtain ⟨g9, hF⟩ := gd_some hF
      refine aw_aald hK rfl g9 dX7_unite_15 ?_
      obtain ⟨q10, hq10, hF⟩ := bnd_some hF
      refine aw_nr hq10 ?_
      refine aw_astore_n hK [(3, q_r q10), (0, q_r 0), (1, q_i x1), (2, q_i x2)] (by decide) rfl dX7_unite_16 ?_
      refine aw_aload_n hK 1 rfl dX7_unite_17 ?_
      refine gf_7_2 hK rfl (2) rfl (List.mem_of_getElem? (i := 1) rfl) dX7_unite_18 ?_
      refine aw_iload_n hK 3 rfl dX7_unite_21 ?_
      obtain ⟨g11, hF⟩ := gd_some hF
      refine aw_aald hK rfl g11 dX7_unite_22 ?_
      obtain ⟨q12, hq12, hF⟩ := bnd_some hF
      refine aw_nr hq12 ?_
      refine aw_astore hK [(4, q_r q12), (3, q_r q10), (0, q_r 0), (1, q_i x1), (2, q_i x2)] (by decide) rfl dX7_unite_23 ?_
      refine aw_aload_n hK 1 rfl dX7_unite_25 ?_
      refine gf_3_1 hK (hq10 ▸ (kMi g9)) (List.mem_of_getElem? (i := 2) rfl) dX7_unite_26 ?_
      refine aw_aload hK 0 rfl dX7_unite_29 ?_
      refine gf_3_1 hK (hq12 ▸ (kMi g11)) (List.mem_of_getElem? (i := 2) rfl) dX7_unite_31 ?_
      refine aw_iadd hK dX7_unite_34 ?_
      obtain ⟨y13, hy13, hF⟩ := bnd_some hF
      refine aw_nm hy13 ?_
      refine aw_istore hK [(5, q_i y13), (4, q_r q12), (3, q_r q10), (0, q_r 0), (1, q_i x1), (2, q_i x2)] (by decide) rfl dX7_unite_35 ?_
      refine aw_aload_n hK 3 rfl dX7_unite_37 ?_
      refine gf_7_4 hK rfl (3) rfl (List.mem_of_getElem? (i := 3) rfl) dX7_unite_38 ?_
      refine aw_iload hK 0 rfl dX7_unite_41 ?_
      refine aw_iconst hK (1) rfl dX7_unite_43 ?_
      refine aw_iadd hK dX7_unite_44 ?_
      refine aw_iload hK 0 rfl dX7_unite_45 ?_
      obtain ⟨m15, h14, hF⟩ := calv_some hF
      refine aw_cv hK 1 (as := [q_i (y13 + (1 : Int32)), q_i y13]) (tr_X1_begin h14) gX7_unite_X1_begin rfl rfl rfl (by decide) (na := 2) (by decide +kernel) rfl ⟨by decide, by decide⟩ (Nat.le_of_ble_eq_true rfl) (Nat.le_of_ble_eq_true rfl) dX7_unite_47 ?_
      refine aw_aload_n hK 3 rfl dX7_unite_50 ?_
      refine gf_7_4 hK rfl (3) rfl (List.mem_of_getElem? (i := 3) rfl) dX7_unite_51 ?_
      refine aw_aload_n hK 2 rfl dX7_unite_54 ?_
      refine aw_iconst hK (0) rfl dX7_unite_55 ?_
      obtain ⟨m17, h16, hF⟩ := calv_some hF
      refine aw_cv hK 1 (as := [q_r q10, q_i (0 : Int32)]) (tr_X1_addArcsOf (hq10 ▸ (kMi g9)) h16) gX7_unite_X1_addArcsOf rfl rfl rfl (by decide) (na := 2) (by decide +kernel) rfl ⟨by decide, by decide⟩ (Nat.le_of_ble_eq_true rfl) (Nat.le_of_ble_eq_true rfl) dX7_unite_56 ?_
      refine aw_aload_n hK 3 rfl dX7_unite_59 ?_
      refine gf_7_4 hK rfl (3) rfl (List.mem_of_getElem? (i := 3) rfl) dX7_unite_60 ?_
      refine aw_aload hK 1 rfl dX7_unite_63 ?_
      refine aw_aload_n hK 2 rfl dX7_unite_65 ?_
      refine gf_3_1 hK (hq10 ▸ (kMi g9)) (List.mem_of_getElem? (i := 2) rfl) dX7_unite_66 ?_
      obtain ⟨m19, h18, hF⟩ := calv_some hF
      refine aw_cv hK 1 (as := [q_r q12, q_i (m17 q10 1)]) (tr_X1_addArcsOf (hq12 ▸ (kMi g11)) h18) gX7_unite_X1_addArcsOf rfl rfl rfl (by decide) (na := 2) (by decide +kernel) rfl ⟨by decide, by decide⟩ (Nat.le_of_ble_eq_true rfl) (Nat.le_of_ble_eq_true rfl) dX7_unite_69 ?_
      refine aw_aload_n hK 3 rfl dX7_unite_72 ?_
      refine gf_7_4 hK rfl (3) rfl (List.mem_of_getElem? (i := 3) rfl) dX7_unite_73 ?_
      refine aw_aload_n hK 2 rfl dX7_unite_76 ?_
      refine aw_iconst hK (0) rfl dX7_unite_77 ?_
      obtain ⟨m21, h20, hF⟩ := calv_some hF
      refine aw_cv hK 1 (as := [q_r q10, q_i (0 : Int32)]) (tr_X1_addEndsOf (hq10 ▸ (kMi g9)) h20) gX7_unite_X1_addEndsOf rfl rfl rfl (by decide) (na := 2) (by decide +kernel) rfl ⟨by decide, by decide⟩ (Nat.le_of_ble_eq_true rfl) (Nat.le_of_ble_eq_true rfl) dX7_unite_78 ?_
      refine aw_aload_n hK 3 rfl dX7_unite_81 ?_
      refine gf_7_4 hK rfl (3) rfl (List.mem_of_getElem? (i := 3) rfl) dX7_unite_82 ?_
      refine aw_aload hK 1 rfl dX7_unite_85 ?_
      refine aw_aload_n hK 2 rfl dX7_unite_87 ?_
      refine gf_3_1 hK (hq10 ▸ (kMi g9)) (List.mem_of_getElem? (i := 2) rfl) dX7_unite_88 ?_
      obtain ⟨m23, h22, hF⟩ := calv_some hF
      refine aw_cv hK 1 (as := [q_r q12, q_i (m21 q10 1)]) (tr_X1_addEndsOf (hq12 ▸ (kMi g11)) h22) gX7_unite_X1_addEndsOf rfl rfl rfl (by decide) (na := 2) (by decide +kernel) rfl ⟨by decide, by decide⟩ (Nat.le_of_ble_eq_true rfl) (Nat.le_of_ble_eq_true rfl) dX7_unite_91 ?_
      refine aw_aload_n hK 3 rfl dX7_unite_94 ?_
      refine gf_7_4 hK rfl (3) rfl (List.mem_of_getElem? (i := 3) rfl) dX7_unite_95 ?_
      refine aw_iload hK 0 rfl dX7_unite_98 ?_
      refine aw_bipush hK (8) rfl dX7_unite_100 ?_
      refine aw_bipush hK (8) rfl dX7_unite_102 ?_
      refine aw_iconst hK (0) rfl dX7_unite_104 ?_
      refine aw_iconst hK (0) rfl dX7_unite_105 ?_
      obtain ⟨m25, h24, hF⟩ := calv_some hF
      refine aw_cv hK 1 (as := [q_i y13, q_i (8 : Int32), q_i (8 : Int32), q_i (0 : Int32), q_i (0 : Int32)]) (tr_X1_addArc h24) gX7_unite_X1_addArc rfl rfl rfl (by decide) (na := 5) (by decide +kernel) rfl ⟨by decide, by decide⟩ (Nat.le_of_ble_eq_true rfl) (Nat.le_of_ble_eq_true rfl) dX7_unite_106 ?_
      refine aw_aload_n hK 3 rfl dX7_unite_109 ?_
      refine gf_7_4 hK rfl (3) rfl (List.mem_of_getElem? (i := 3) rfl) dX7_unite_110 ?_
      refine aw_iload hK 0 rfl dX7_unite_113 ?_
      refine aw_bipush hK (8) rfl dX7_unite_115 ?_
      refine aw_bipush hK (8) rfl dX7_unite_117 ?_
      refine aw_iconst hK (0) rfl dX7_unite_119 ?_
      refine aw_aload_n hK 2 rfl dX7_unite_120 ?_
      refine gf_3_1 hK (hq10 ▸ (kMi g9)) (List.mem_of_getElem? (i := 2) rfl) dX7_unite_121 ?_
      obtain ⟨m27, h26, hF⟩ := calv_some hF
      refine aw_cv hK 1 (as := [q_i y13, q_i (8 : Int32), q_i (8 : Int32), q_i (0 : Int32), q_i (m25 q10 1)]) (tr_X1_addArc h26) gX7_unite_X1_addArc rfl rfl rfl (by decide) (na := 5) (by decide +kernel) rfl ⟨by decide, by decide⟩ (Nat.le_of_ble_eq_true rfl) (Nat.le_of_ble_eq_true rfl) dX7_unite_124 ?_
      refine aw_aload_n hK 3 rfl dX7_unite_127 ?_
      rcases calx_some hF with ⟨r30, m29, h28, hF⟩ | ⟨x_31, m29, h28, hF⟩
      · refine aw_cvXr hK (kxb hR) 7 (as := []) (trX_X7_keepDraft h28) gX7_unite_X7_keepDraft rfl rfl rfl (by decide) (na := 0) (by decide +kernel) rfl ⟨by decide, by decide⟩ (Nat.le_of_ble_eq_true rfl) (Nat.le_of_ble_eq_true rfl) dX7_unite_128 ?_
        obtain ⟨rfl, rfl⟩ := so_inj hF
        exact aw_iretX hK hR rfl (Nat.le_of_ble_eq_true rfl) dX7_unite_131
      · obtain ⟨rfl, rfl⟩ := Prod.mk.inj hF
        exact aw_cvXx hK hR 7 (as := []) (trX_X7_keepDraft h28) gX7_unite_X7_keepDraft rfl rfl rfl (by decide) (na := 0) (by decide +kernel) rfl ⟨by decide, by decide⟩ (Nat.le_of_ble_eq_true rfl) (Nat.le_of_ble_eq_true rfl) dX7_unite_128
    · obtain ⟨rfl, rfl⟩ := Prod.mk.inj hF
      exact aw_cvXx hK hR 7 (as := [q_i x2]) (trX_X7_needMachine h5) gX7_unite_X7_needMachine rfl rfl rfl (by decide) (na := 1) (by decide +kernel) rfl ⟨by decide, by decide⟩ (Nat.le_of_ble_eq_true rfl) (Nat.le_of_ble_eq_true rfl) dX7_unite_7
  · obtain ⟨rfl, rfl⟩ := Prod.mk.inj hF
    exact aw_cvXx hK hR 7 (as := [q_i x1]) (trX_X7_needMachine h1) gX7_unite_X7_needMachine rfl rfl rfl (by decide) (na := 1) (by decide +kernel) rfl ⟨by decide, by decide⟩ (Nat.le_of_ble_eq_true rfl) (Nat.le_of_ble_eq_true rfl) dX7_unite_2
set_option maxRecDepth 100000 in
set_option maxHeartbeats 4000000 in
theorem trN_X7_unite {N : Nat} {m m' : Mem} {r : Int32} {x1 : Int32} {x2 : Int32} (hF : F_X7_unite N m x1 x2 = some (.inl r, m')) : Tr yX7_unite wsX7_unite 7 114 [q_r 0, q_i x1, q_i x2] m (some r) m' := by
  refine tr_of (bytes := cX7_unite) (maxL := 6) (ret := (some .int)) (by decide) rfl (Nat.le_of_ble_eq_true rfl) (fun K hK hR => ?_)
  have hK : KOK K cX7_unite 6 RX7 wsX7_unite 7 0 114 := hK
  show AW K 0 0 [(0, q_r 0), (1, q_i x1), (2, q_i x2)] [] m
  unfold F_X7_unite at hF
  refine aw_aload_n hK 0 rfl dX7_unite_0 ?_
  refine aw_iload_n hK 1 rfl dX7_unite_1 ?_
  rcases calx_some hF with ⟨r3, m2, h1, hF⟩ | ⟨x_4, m2, h1, hF⟩
  · refine aw_cv hK 7 (as := [q_i x1]) (trN_X7_needMachine h1) gX7_unite_X7_needMachine rfl rfl rfl (by decide) (na := 1) (by decide +kernel) rfl ⟨by decide, by decide⟩ (Nat.zero_le _) (Nat.le_of_ble_eq_true rfl) dX7_unite_2 ?_
    refine aw_aload_n hK 0 rfl dX7_unite_5 ?_
    refine aw_iload_n hK 2 rfl dX7_unite_6 ?_
    rcases calx_some hF with ⟨r7, m6, h5, hF⟩ | ⟨x_8, m6, h5, hF⟩
    · refine aw_cv hK 7 (as := [q_i x2]) (trN_X7_needMachine h5) gX7_unite_X7_needMachine rfl rfl rfl (by decide) (na := 1) (by decide +kernel) rfl ⟨by decide, by decide⟩ (Nat.zero_le _) (Nat.le_of_ble_eq_true rfl) dX7_unite_7 ?_
      refine aw_aload_n hK 0 rfl dX7_unite_10 ?_
      refine gf_7_2 hK rfl (2) rfl (List.mem_of_getElem? (i := 1) rfl) dX7_unite_11 ?_
      refine aw_iload_n hK 1 rfl dX7_unite_14 ?_
      obtain ⟨g9, hF⟩ := gd_some hF
      refine aw_aald hK rfl g9 dX7_unite_15 ?_
      obtain ⟨q10, hq10, hF⟩ := bnd_some hF
      refine aw_nr hq10 ?_
      refine aw_astore_n hK [(3, q_r q10), (0, q_r 0), (1, q_i x1), (2, q_i x2)] (by decide) rfl dX7_unite_16 ?_
      refine aw_aload_n hK 1 rfl dX7_unite_17 ?_
      refine gf_7_2 hK rfl (2) rfl (List.mem_of_getElem? (i := 1) rfl) dX7_unite_18 ?_
      refine aw_iload_n hK 3 rfl dX7_unite_21 ?_
      obtain ⟨g11, hF⟩ := gd_some hF
      refine aw_aald hK rfl g11 dX7_unite_22 ?_
      obtain ⟨q12, hq12, hF⟩ := bnd_some hF
      refine aw_nr hq12 ?_
      refine aw_astore hK [(4, q_r q12), (3, q_r q10), (0, q_r 0), (1, q_i x1), (2, q_i x2)] (by decide) rfl dX7_unite_23 ?_
      refine aw_aload_n hK 1 rfl dX7_unite_25 ?_
      refine gf_3_1 hK (hq10 ▸ (kMi g9)) (List.mem_of_getElem? (i := 2) rfl) dX7_unite_26 ?_
      refine aw_aload hK 0 rfl dX7_unite_29 ?_
      refine gf_3_1 hK (hq12 ▸ (kMi g11)) (List.mem_of_getElem? (i := 2) rfl) dX7_unite_31 ?_
      refine aw_iadd hK dX7_unite_34 ?_
      obtain ⟨y13, hy13, hF⟩ := bnd_some hF
      refine aw_nm hy13 ?_
      refine aw_istore hK [(5, q_i y13), (4, q_r q12), (3, q_r q10), (0, q_r 0), (1, q_i x1), (2, q_i x2)] (by decide) rfl dX7_unite_35 ?_
      refine aw_aload_n hK 3 rfl dX7_unite_37 ?_
      refine gf_7_4 hK rfl (3) rfl (List.mem_of_getElem? (i := 3) rfl) dX7_unite_38 ?_
      refine aw_iload hK 0 rfl dX7_unite_41 ?_
      refine aw_iconst hK (1) rfl dX7_unite_43 ?_
      refine aw_iadd hK dX7_unite_44 ?_
      refine aw_iload hK 0 rfl dX7_unite_45 ?_
      obtain ⟨m15, h14, hF⟩ := calv_some hF
      refine aw_cv hK 1 (as := [q_i (y13 + (1 : Int32)), q_i y13]) (tr_X1_begin h14) gX7_unite_X1_begin rfl rfl rfl (by decide) (na := 2) (by decide +kernel) rfl ⟨by decide, by decide⟩ (Nat.zero_le _) (Nat.le_of_ble_eq_true rfl) dX7_unite_47 ?_
      refine aw_aload_n hK 3 rfl dX7_unite_50 ?_
      refine gf_7_4 hK rfl (3) rfl (List.mem_of_getElem? (i := 3) rfl) dX7_unite_51 ?_
      refine aw_aload_n hK 2 rfl dX7_unite_54 ?_
      refine aw_iconst hK (0) rfl dX7_unite_55 ?_
      obtain ⟨m17, h16, hF⟩ := calv_some hF
      refine aw_cv hK 1 (as := [q_r q10, q_i (0 : Int32)]) (tr_X1_addArcsOf (hq10 ▸ (kMi g9)) h16) gX7_unite_X1_addArcsOf rfl rfl rfl (by decide) (na := 2) (by decide +kernel) rfl ⟨by decide, by decide⟩ (Nat.zero_le _) (Nat.le_of_ble_eq_true rfl) dX7_unite_56 ?_
      refine aw_aload_n hK 3 rfl dX7_unite_59 ?_
      refine gf_7_4 hK rfl (3) rfl (List.mem_of_getElem? (i := 3) rfl) dX7_unite_60 ?_
      refine aw_aload hK 1 rfl dX7_unite_63 ?_
      refine aw_aload_n hK 2 rfl dX7_unite_65 ?_
      refine gf_3_1 hK (hq10 ▸ (kMi g9)) (List.mem_of_getElem? (i := 2) rfl) dX7_unite_66 ?_
      obtain ⟨m19, h18, hF⟩ := calv_some hF
      refine aw_cv hK 1 (as := [q_r q12, q_i (m17 q10 1)]) (tr_X1_addArcsOf (hq12 ▸ (kMi g11)) h18) gX7_unite_X1_addArcsOf rfl rfl rfl (by decide) (na := 2) (by decide +kernel) rfl ⟨by decide, by decide⟩ (Nat.zero_le _) (Nat.le_of_ble_eq_true rfl) dX7_unite_69 ?_
      refine aw_aload_n hK 3 rfl dX7_unite_72 ?_
      refine gf_7_4 hK rfl (3) rfl (List.mem_of_getElem? (i := 3) rfl) dX7_unite_73 ?_
      refine aw_aload_n hK 2 rfl dX7_unite_76 ?_
      refine aw_iconst hK (0) rfl dX7_unite_77 ?_
      obtain ⟨m21, h20, hF⟩ := calv_some hF
      refine aw_cv hK 1 (as := [q_r q10, q_i (0 : Int32)]) (tr_X1_addEndsOf (hq10 ▸ (kMi g9)) h20) gX7_unite_X1_addEndsOf rfl rfl rfl (by decide) (na := 2) (by decide +kernel) rfl ⟨by decide, by decide⟩ (Nat.zero_le _) (Nat.le_of_ble_eq_true rfl) dX7_unite_78 ?_
      refine aw_aload_n hK 3 rfl dX7_unite_81 ?_
      refine gf_7_4 hK rfl (3) rfl (List.mem_of_getElem? (i := 3) rfl) dX7_unite_82 ?_
      refine aw_aload hK 1 rfl dX7_unite_85 ?_
      refine aw_aload_n hK 2 rfl dX7_unite_87 ?_
      refine gf_3_1 hK (hq10 ▸ (kMi g9)) (List.mem_of_getElem? (i := 2) rfl) dX7_unite_88 ?_
      obtain ⟨m23, h22, hF⟩ := calv_some hF
      refine aw_cv hK 1 (as := [q_r q12, q_i (m21 q10 1)]) (tr_X1_addEndsOf (hq12 ▸ (kMi g11)) h22) gX7_unite_X1_addEndsOf rfl rfl rfl (by decide) (na := 2) (by decide +kernel) rfl ⟨by decide, by decide⟩ (Nat.zero_le _) (Nat.le_of_ble_eq_true rfl) dX7_unite_91 ?_
      refine aw_aload_n hK 3 rfl dX7_unite_94 ?_
      refine gf_7_4 hK rfl (3) rfl (List.mem_of_getElem? (i := 3) rfl) dX7_unite_95 ?_
      refine aw_iload hK 0 rfl dX7_unite_98 ?_
      refine aw_bipush hK (8) rfl dX7_unite_100 ?_
      refine aw_bipush hK (8) rfl dX7_unite_102 ?_
      refine aw_iconst hK (0) rfl dX7_unite_104 ?_
      refine aw_iconst hK (0) rfl dX7_unite_105 ?_
      obtain ⟨m25, h24, hF⟩ := calv_some hF
      refine aw_cv hK 1 (as := [q_i y13, q_i (8 : Int32), q_i (8 : Int32), q_i (0 : Int32), q_i (0 : Int32)]) (tr_X1_addArc h24) gX7_unite_X1_addArc rfl rfl rfl (by decide) (na := 5) (by decide +kernel) rfl ⟨by decide, by decide⟩ (Nat.zero_le _) (Nat.le_of_ble_eq_true rfl) dX7_unite_106 ?_
      refine aw_aload_n hK 3 rfl dX7_unite_109 ?_
      refine gf_7_4 hK rfl (3) rfl (List.mem_of_getElem? (i := 3) rfl) dX7_unite_110 ?_
      refine aw_iload hK 0 rfl dX7_unite_113 ?_
      refine aw_bipush hK (8) rfl dX7_unite_115 ?_
      refine aw_bipush hK (8) rfl dX7_unite_117 ?_
      refine aw_iconst hK (0) rfl dX7_unite_119 ?_
      refine aw_aload_n hK 2 rfl dX7_unite_120 ?_
      refine gf_3_1 hK (hq10 ▸ (kMi g9)) (List.mem_of_getElem? (i := 2) rfl) dX7_unite_121 ?_
      obtain ⟨m27, h26, hF⟩ := calv_some hF
      refine aw_cv hK 1 (as := [q_i y13, q_i (8 : Int32), q_i (8 : Int32), q_i (0 : Int32), q_i (m25 q10 1)]) (tr_X1_addArc h26) gX7_unite_X1_addArc rfl rfl rfl (by decide) (na := 5) (by decide +kernel) rfl ⟨by decide, by decide⟩ (Nat.zero_le _) (Nat.le_of_ble_eq_true rfl) dX7_unite_124 ?_
      refine aw_aload_n hK 3 rfl dX7_unite_127 ?_
      rcases calx_some hF with ⟨r30, m29, h28, hF⟩ | ⟨x_31, m29, h28, hF⟩
      · refine aw_cv hK 7 (as := []) (trN_X7_keepDraft h28) gX7_unite_X7_keepDraft rfl rfl rfl (by decide) (na := 0) (by decide +kernel) rfl ⟨by decide, by decide⟩ (Nat.zero_le _) (Nat.le_of_ble_eq_true rfl) dX7_unite_128 ?_
        obtain ⟨e1, rfl⟩ := so_inj hF
        cases e1
        exact aw_iret hK hR rfl dX7_unite_131
      · cases hF
    · cases hF
  · cases hF
def B_X7_repeat_28 (N : Nat) (m : Mem) : Option ((Int32 ⊕ Nat) × Mem) :=
  some (.inr 1, m)
set_option maxRecDepth 100000 in
set_option maxHeartbeats 4000000 in
theorem bk_X7_repeat_28 {N : Nat} {K : KT} {m' : Mem} {res : Int32 ⊕ Nat} (hK : KOK K cX7_repeat 4 RX7 wsX7_repeat 7 2 114) (hR : KX K (some .int) (xo true res) m' 2) {m : Mem} (hF : B_X7_repeat_28 N m = some (res, m')) : AW K 1 28 [] [] m := by
  unfold B_X7_repeat_28 at hF
  obtain ⟨rfl, rfl⟩ := so_inj hF
  exact aw_throw (ik := 66) (ic := 70) (x := 1) hK hR (by decide) (List.mem_of_getElem? (i := 1) rfl) (List.mem_of_getElem? (i := 2) rfl) (List.mem_of_getElem? (i := 3) rfl) (by decide +kernel) (by decide +kernel) (by decide +kernel) (by decide +kernel) ⟨by decide, by decide⟩ (Nat.le_of_ble_eq_true rfl) (Nat.le_of_ble_eq_true rfl) dX7_repeat_28 dX7_repeat_31 dX7_repeat_32 dX7_repeat_34 dX7_repeat_37
def F_X7_repeat (N : Nat) (m : Mem) (x1 : Int32) : Option ((Int32 ⊕ Nat) × Mem) :=
  calx (F_X7_needMachine N m x1) fun r3 m2 =>
  gd (inb x1 (alen 2)) <|
  bnd (200 + 4 * ix x1) fun q6 =>
  cal (F_X3_relatesEmpty N m2 q6 (1 : Int32)) fun r9 m8 =>
  if r9 = (0 : Int32) then (
    cal (F_X3_relatesEmpty N m8 q6 (0 : Int32)) fun r12 m11 =>
    if r12 = (0 : Int32) then (
      bnd (m11 q6 1) fun y13 =>
      calv (F_X1_begin N m11 (y13 + (1 : Int32)) y13) fun m15 =>
      calv (F_X1_addArcsOf N m15 q6 (0 : Int32)) fun m17 =>
      calv (F_X1_addArc N m17 y13 (8 : Int32) (8 : Int32) (0 : Int32) (0 : Int32)) fun m19 =>
      calv (F_X1_leadFromEndsOf N m19 q6 (0 : Int32) y13) fun m21 =>
      calv (F_X1_addEnd N m21 y13) fun m23 =>
      calx (F_X7_keepDraft N m23) fun r26 m25 =>
      some (.inl r26, m25)
    ) else (
      B_X7_repeat_28 N m11
    )
  ) else (
    B_X7_repeat_28 N m8
  )
set_option maxRecDepth 100000 in
set_option maxHeartbeats 4000000 in
theorem trX_X7_repeat {N : Nat} {m m' : Mem} {res : Int32 ⊕ Nat} {x1 : Int32} (hF : F_X7_repeat N m x1 = some (res, m')) : TrX yX7_repeat wsX7_repeat 7 114 2 [q_r 0, q_i x1] m (xo true res) m' := by
  refine trX_of (bytes := cX7_repeat) (maxL := 4) (ret := (some .int)) (by decide) rfl (Nat.le_of_ble_eq_true rfl) (fun K hK hR => ?_)
  have hK : KOK K cX7_repeat 4 RX7 wsX7_repeat 7 2 114 := hK
  show AW K 0 0 [(0, q_r 0), (1, q_i x1)] [] m
  unfold F_X7_repeat at hF
  refine aw_aload_n hK 0 rfl dX7_repeat_0 ?_
  refine aw_iload_n hK 1 rfl dX7_repeat_1 ?_
  rcases calx_some hF with ⟨r3, m2, h1, hF⟩ | ⟨x_4, m2, h1, hF⟩
  · refine aw_cvXr hK (kxb hR) 7 (as := [q_i x1]) (trX_X7_needMachine h1) gX7_repeat_X7_needMachine rfl rfl rfl (by decide) (na := 1) (by decide +kernel) rfl ⟨by decide, by decide⟩ (Nat.le_of_ble_eq_true rfl) (Nat.le_of_ble_eq_true rfl) dX7_repeat_2 ?_
    refine aw_aload_n hK 0 rfl dX7_repeat_5 ?_
    refine gf_7_2 hK rfl (2) rfl (List.mem_of_getElem? (i := 3) rfl) dX7_repeat_6 ?_
    refine aw_iload_n hK 1 rfl dX7_repeat_9 ?_
    obtain ⟨g5, hF⟩ := gd_some hF
    refine aw_aald hK rfl g5 dX7_repeat_10 ?_
    obtain ⟨q6, hq6, hF⟩ := bnd_some hF
    refine aw_nr hq6 ?_
    refine aw_astore_n hK [(2, q_r q6), (0, q_r 0), (1, q_i x1)] (by decide) rfl dX7_repeat_11 ?_
    refine aw_aload_n hK 0 rfl dX7_repeat_12 ?_
    refine aw_iconst hK (1) rfl dX7_repeat_13 ?_
    obtain ⟨r9, m8, h7, hF⟩ := cal_some hF
    refine aw_cv hK 3 (as := [q_i (1 : Int32)]) (tr_X3_relatesEmpty (hq6 ▸ (kMi g5)) h7) gX7_repeat_X3_relatesEmpty rfl rfl (hq6 ▸ (kMi g5)) (by decide) (na := 1) (by decide +kernel) rfl ⟨by decide, by decide⟩ (Nat.le_of_ble_eq_true rfl) (Nat.le_of_ble_eq_true rfl) dX7_repeat_14 ?_
    refine aw_if_ne hK 28 rfl dX7_repeat_17 (fun hc => ?_) (fun hc => ?_)
    · have hF := if_f hF hc
      refine aw_sub [] (lv' := []) rfl ?_
      exact bk_X7_repeat_28 hK hR hF
    · have hF := if_t hF hc
      refine aw_aload_n hK 0 rfl dX7_repeat_20 ?_
      refine aw_iconst hK (0) rfl dX7_repeat_21 ?_
      obtain ⟨r12, m11, h10, hF⟩ := cal_some hF
      refine aw_cv hK 3 (as := [q_i (0 : Int32)]) (tr_X3_relatesEmpty (hq6 ▸ (kMi g5)) h10) gX7_repeat_X3_relatesEmpty rfl rfl (hq6 ▸ (kMi g5)) (by decide) (na := 1) (by decide +kernel) rfl ⟨by decide, by decide⟩ (Nat.le_of_ble_eq_true rfl) (Nat.le_of_ble_eq_true rfl) dX7_repeat_22 ?_
      refine aw_if_eq hK 38 rfl dX7_repeat_25 (fun hc => ?_) (fun hc => ?_)
      · have hF := if_t hF hc
        refine aw_aload_n hK 0 rfl dX7_repeat_38 ?_
        refine gf_3_1 hK (hq6 ▸ (kMi g5)) (List.mem_of_getElem? (i := 4) rfl) dX7_repeat_39 ?_
        obtain ⟨y13, hy13, hF⟩ := bnd_some hF
        refine aw_nm hy13 ?_
        refine aw_istore_n hK [(3, q_i y13), (2, q_r q6), (0, q_r 0), (1, q_i x1)] (by decide) rfl dX7_repeat_42 ?_
        refine aw_aload_n hK 2 rfl dX7_repeat_43 ?_
        refine gf_7_4 hK rfl (3) rfl (List.mem_of_getElem? (i := 5) rfl) dX7_repeat_44 ?_
        refine aw_iload_n hK 0 rfl dX7_repeat_47 ?_
        refine aw_iconst hK (1) rfl dX7_repeat_48 ?_
        refine aw_iadd hK dX7_repeat_49 ?_
        refine aw_iload_n hK 0 rfl dX7_repeat_50 ?_
        obtain ⟨m15, h14, hF⟩ := calv_some hF
        refine aw_cv hK 1 (as := [q_i (y13 + (1 : Int32)), q_i y13]) (tr_X1_begin h14) gX7_repeat_X1_begin rfl rfl rfl (by decide) (na := 2) (by decide +kernel) rfl ⟨by decide, by decide⟩ (Nat.le_of_ble_eq_true rfl) (Nat.le_of_ble_eq_true rfl) dX7_repeat_51 ?_
        refine aw_aload_n hK 2 rfl dX7_repeat_54 ?_
        refine gf_7_4 hK rfl (3) rfl (List.mem_of_getElem? (i := 5) rfl) dX7_repeat_55 ?_
        refine aw_aload_n hK 1 rfl dX7_repeat_58 ?_
        refine aw_iconst hK (0) rfl dX7_repeat_59 ?_
        obtain ⟨m17, h16, hF⟩ := calv_some hF
        refine aw_cv hK 1 (as := [q_r q6, q_i (0 : Int32)]) (tr_X1_addArcsOf (hq6 ▸ (kMi g5)) h16) gX7_repeat_X1_addArcsOf rfl rfl rfl (by decide) (na := 2) (by decide +kernel) rfl ⟨by decide, by decide⟩ (Nat.le_of_ble_eq_true rfl) (Nat.le_of_ble_eq_true rfl) dX7_repeat_60 ?_
        refine aw_aload_n hK 2 rfl dX7_repeat_63 ?_
        refine gf_7_4 hK rfl (3) rfl (List.mem_of_getElem? (i := 5) rfl) dX7_repeat_64 ?_
        refine aw_iload_n hK 0 rfl dX7_repeat_67 ?_
        refine aw_bipush hK (8) rfl dX7_repeat_68 ?_
        refine aw_bipush hK (8) rfl dX7_repeat_70 ?_
        refine aw_iconst hK (0) rfl dX7_repeat_72 ?_
        refine aw_iconst hK (0) rfl dX7_repeat_73 ?_
        obtain ⟨m19, h18, hF⟩ := calv_some hF
        refine aw_cv hK 1 (as := [q_i y13, q_i (8 : Int32), q_i (8 : Int32), q_i (0 : Int32), q_i (0 : Int32)]) (tr_X1_addArc h18) gX7_repeat_X1_addArc rfl rfl rfl (by decide) (na := 5) (by decide +kernel) rfl ⟨by decide, by decide⟩ (Nat.le_of_ble_eq_true rfl) (Nat.le_of_ble_eq_true rfl) dX7_repeat_74 ?_
        refine aw_aload_n hK 2 rfl dX7_repeat_77 ?_
        refine gf_7_4 hK rfl (3) rfl (List.mem_of_getElem? (i := 5) rfl) dX7_repeat_78 ?_
        refine aw_aload_n hK 1 rfl dX7_repeat_81 ?_
        refine aw_iconst hK (0) rfl dX7_repeat_82 ?_
        refine aw_iload_n hK 0 rfl dX7_repeat_83 ?_
        obtain ⟨m21, h20, hF⟩ := calv_some hF
        refine aw_cv hK 1 (as := [q_r q6, q_i (0 : Int32), q_i y13]) (tr_X1_leadFromEndsOf (hq6 ▸ (kMi g5)) h20) gX7_repeat_X1_leadFromEndsOf rfl rfl rfl (by decide) (na := 3) (by decide +kernel) rfl ⟨by decide, by decide⟩ (Nat.le_of_ble_eq_true rfl) (Nat.le_of_ble_eq_true rfl) dX7_repeat_84 ?_
        refine aw_aload_n hK 2 rfl dX7_repeat_87 ?_
        refine gf_7_4 hK rfl (3) rfl (List.mem_of_getElem? (i := 5) rfl) dX7_repeat_88 ?_
        refine aw_iload_n hK 0 rfl dX7_repeat_91 ?_
        obtain ⟨m23, h22, hF⟩ := calv_some hF
        refine aw_cv hK 1 (as := [q_i y13]) (tr_X1_addEnd h22) gX7_repeat_X1_addEnd rfl rfl rfl (by decide) (na := 1) (by decide +kernel) rfl ⟨by decide, by decide⟩ (Nat.le_of_ble_eq_true rfl) (Nat.le_of_ble_eq_true rfl) dX7_repeat_92 ?_
        refine aw_aload_n hK 2 rfl dX7_repeat_95 ?_
        rcases calx_some hF with ⟨r26, m25, h24, hF⟩ | ⟨x_27, m25, h24, hF⟩
        · refine aw_cvXr hK (kxb hR) 7 (as := []) (trX_X7_keepDraft h24) gX7_repeat_X7_keepDraft rfl rfl rfl (by decide) (na := 0) (by decide +kernel) rfl ⟨by decide, by decide⟩ (Nat.le_of_ble_eq_true rfl) (Nat.le_of_ble_eq_true rfl) dX7_repeat_96 ?_
          obtain ⟨rfl, rfl⟩ := so_inj hF
          exact aw_iretX hK hR rfl (Nat.le_of_ble_eq_true rfl) dX7_repeat_99
        · obtain ⟨rfl, rfl⟩ := Prod.mk.inj hF
          exact aw_cvXx hK hR 7 (as := []) (trX_X7_keepDraft h24) gX7_repeat_X7_keepDraft rfl rfl rfl (by decide) (na := 0) (by decide +kernel) rfl ⟨by decide, by decide⟩ (Nat.le_of_ble_eq_true rfl) (Nat.le_of_ble_eq_true rfl) dX7_repeat_96
      · have hF := if_f hF hc
        refine aw_sub [] (lv' := []) rfl ?_
        exact bk_X7_repeat_28 hK hR hF
  · obtain ⟨rfl, rfl⟩ := Prod.mk.inj hF
    exact aw_cvXx hK hR 7 (as := [q_i x1]) (trX_X7_needMachine h1) gX7_repeat_X7_needMachine rfl rfl rfl (by decide) (na := 1) (by decide +kernel) rfl ⟨by decide, by decide⟩ (Nat.le_of_ble_eq_true rfl) (Nat.le_of_ble_eq_true rfl) dX7_repeat_2
set_option maxRecDepth 100000 in
set_option maxHeartbeats 4000000 in
theorem bkN_X7_repeat_28 {N : Nat} {K : KT} {m' : Mem} {r : Int32} (hK : KOK K cX7_repeat 4 RX7 wsX7_repeat 7 0 114) (hR : KRet K (some .int) (some r) m') {m : Mem} (hF : B_X7_repeat_28 N m = some (.inl r, m')) : AW K 0 28 [] [] m := by
  unfold B_X7_repeat_28 at hF
  cases hF
set_option maxRecDepth 100000 in
set_option maxHeartbeats 4000000 in
theorem trN_X7_repeat {N : Nat} {m m' : Mem} {r : Int32} {x1 : Int32} (hF : F_X7_repeat N m x1 = some (.inl r, m')) : Tr yX7_repeat wsX7_repeat 7 114 [q_r 0, q_i x1] m (some r) m' := by
  refine tr_of (bytes := cX7_repeat) (maxL := 4) (ret := (some .int)) (by decide) rfl (Nat.le_of_ble_eq_true rfl) (fun K hK hR => ?_)
  have hK : KOK K cX7_repeat 4 RX7 wsX7_repeat 7 0 114 := hK
  show AW K 0 0 [(0, q_r 0), (1, q_i x1)] [] m
  unfold F_X7_repeat at hF
  refine aw_aload_n hK 0 rfl dX7_repeat_0 ?_
  refine aw_iload_n hK 1 rfl dX7_repeat_1 ?_
  rcases calx_some hF with ⟨r3, m2, h1, hF⟩ | ⟨x_4, m2, h1, hF⟩
  · refine aw_cv hK 7 (as := [q_i x1]) (trN_X7_needMachine h1) gX7_repeat_X7_needMachine rfl rfl rfl (by decide) (na := 1) (by decide +kernel) rfl ⟨by decide, by decide⟩ (Nat.zero_le _) (Nat.le_of_ble_eq_true rfl) dX7_repeat_2 ?_
    refine aw_aload_n hK 0 rfl dX7_repeat_5 ?_
    refine gf_7_2 hK rfl (2) rfl (List.mem_of_getElem? (i := 3) rfl) dX7_repeat_6 ?_
    refine aw_iload_n hK 1 rfl dX7_repeat_9 ?_
    obtain ⟨g5, hF⟩ := gd_some hF
    refine aw_aald hK rfl g5 dX7_repeat_10 ?_
    obtain ⟨q6, hq6, hF⟩ := bnd_some hF
    refine aw_nr hq6 ?_
    refine aw_astore_n hK [(2, q_r q6), (0, q_r 0), (1, q_i x1)] (by decide) rfl dX7_repeat_11 ?_
    refine aw_aload_n hK 0 rfl dX7_repeat_12 ?_
    refine aw_iconst hK (1) rfl dX7_repeat_13 ?_
    obtain ⟨r9, m8, h7, hF⟩ := cal_some hF
    refine aw_cv hK 3 (as := [q_i (1 : Int32)]) (tr_X3_relatesEmpty (hq6 ▸ (kMi g5)) h7) gX7_repeat_X3_relatesEmpty rfl rfl (hq6 ▸ (kMi g5)) (by decide) (na := 1) (by decide +kernel) rfl ⟨by decide, by decide⟩ (Nat.zero_le _) (Nat.le_of_ble_eq_true rfl) dX7_repeat_14 ?_
    refine aw_if_ne hK 28 rfl dX7_repeat_17 (fun hc => ?_) (fun hc => ?_)
    · have hF := if_f hF hc
      refine aw_sub [] (lv' := []) rfl ?_
      exact bkN_X7_repeat_28 hK hR hF
    · have hF := if_t hF hc
      refine aw_aload_n hK 0 rfl dX7_repeat_20 ?_
      refine aw_iconst hK (0) rfl dX7_repeat_21 ?_
      obtain ⟨r12, m11, h10, hF⟩ := cal_some hF
      refine aw_cv hK 3 (as := [q_i (0 : Int32)]) (tr_X3_relatesEmpty (hq6 ▸ (kMi g5)) h10) gX7_repeat_X3_relatesEmpty rfl rfl (hq6 ▸ (kMi g5)) (by decide) (na := 1) (by decide +kernel) rfl ⟨by decide, by decide⟩ (Nat.zero_le _) (Nat.le_of_ble_eq_true rfl) dX7_repeat_22 ?_
      refine aw_if_eq hK 38 rfl dX7_repeat_25 (fun hc => ?_) (fun hc => ?_)
      · have hF := if_t hF hc
        refine aw_aload_n hK 0 rfl dX7_repeat_38 ?_
        refine gf_3_1 hK (hq6 ▸ (kMi g5)) (List.mem_of_getElem? (i := 4) rfl) dX7_repeat_39 ?_
        obtain ⟨y13, hy13, hF⟩ := bnd_some hF
        refine aw_nm hy13 ?_
        refine aw_istore_n hK [(3, q_i y13), (2, q_r q6), (0, q_r 0), (1, q_i x1)] (by decide) rfl dX7_repeat_42 ?_
        refine aw_aload_n hK 2 rfl dX7_repeat_43 ?_
        refine gf_7_4 hK rfl (3) rfl (List.mem_of_getElem? (i := 5) rfl) dX7_repeat_44 ?_
        refine aw_iload_n hK 0 rfl dX7_repeat_47 ?_
        refine aw_iconst hK (1) rfl dX7_repeat_48 ?_
        refine aw_iadd hK dX7_repeat_49 ?_
        refine aw_iload_n hK 0 rfl dX7_repeat_50 ?_
        obtain ⟨m15, h14, hF⟩ := calv_some hF
        refine aw_cv hK 1 (as := [q_i (y13 + (1 : Int32)), q_i y13]) (tr_X1_begin h14) gX7_repeat_X1_begin rfl rfl rfl (by decide) (na := 2) (by decide +kernel) rfl ⟨by decide, by decide⟩ (Nat.zero_le _) (Nat.le_of_ble_eq_true rfl) dX7_repeat_51 ?_
        refine aw_aload_n hK 2 rfl dX7_repeat_54 ?_
        refine gf_7_4 hK rfl (3) rfl (List.mem_of_getElem? (i := 5) rfl) dX7_repeat_55 ?_
        refine aw_aload_n hK 1 rfl dX7_repeat_58 ?_
        refine aw_iconst hK (0) rfl dX7_repeat_59 ?_
        obtain ⟨m17, h16, hF⟩ := calv_some hF
        refine aw_cv hK 1 (as := [q_r q6, q_i (0 : Int32)]) (tr_X1_addArcsOf (hq6 ▸ (kMi g5)) h16) gX7_repeat_X1_addArcsOf rfl rfl rfl (by decide) (na := 2) (by decide +kernel) rfl ⟨by decide, by decide⟩ (Nat.zero_le _) (Nat.le_of_ble_eq_true rfl) dX7_repeat_60 ?_
        refine aw_aload_n hK 2 rfl dX7_repeat_63 ?_
        refine gf_7_4 hK rfl (3) rfl (List.mem_of_getElem? (i := 5) rfl) dX7_repeat_64 ?_
        refine aw_iload_n hK 0 rfl dX7_repeat_67 ?_
        refine aw_bipush hK (8) rfl dX7_repeat_68 ?_
        refine aw_bipush hK (8) rfl dX7_repeat_70 ?_
        refine aw_iconst hK (0) rfl dX7_repeat_72 ?_
        refine aw_iconst hK (0) rfl dX7_repeat_73 ?_
        obtain ⟨m19, h18, hF⟩ := calv_some hF
        refine aw_cv hK 1 (as := [q_i y13, q_i (8 : Int32), q_i (8 : Int32), q_i (0 : Int32), q_i (0 : Int32)]) (tr_X1_addArc h18) gX7_repeat_X1_addArc rfl rfl rfl (by decide) (na := 5) (by decide +kernel) rfl ⟨by decide, by decide⟩ (Nat.zero_le _) (Nat.le_of_ble_eq_true rfl) dX7_repeat_74 ?_
        refine aw_aload_n hK 2 rfl dX7_repeat_77 ?_
        refine gf_7_4 hK rfl (3) rfl (List.mem_of_getElem? (i := 5) rfl) dX7_repeat_78 ?_
        refine aw_aload_n hK 1 rfl dX7_repeat_81 ?_
        refine aw_iconst hK (0) rfl dX7_repeat_82 ?_
        refine aw_iload_n hK 0 rfl dX7_repeat_83 ?_
        obtain ⟨m21, h20, hF⟩ := calv_some hF
        refine aw_cv hK 1 (as := [q_r q6, q_i (0 : Int32), q_i y13]) (tr_X1_leadFromEndsOf (hq6 ▸ (kMi g5)) h20) gX7_repeat_X1_leadFromEndsOf rfl rfl rfl (by decide) (na := 3) (by decide +kernel) rfl ⟨by decide, by decide⟩ (Nat.zero_le _) (Nat.le_of_ble_eq_true rfl) dX7_repeat_84 ?_
        refine aw_aload_n hK 2 rfl dX7_repeat_87 ?_
        refine gf_7_4 hK rfl (3) rfl (List.mem_of_getElem? (i := 5) rfl) dX7_repeat_88 ?_
        refine aw_iload_n hK 0 rfl dX7_repeat_91 ?_
        obtain ⟨m23, h22, hF⟩ := calv_some hF
        refine aw_cv hK 1 (as := [q_i y13]) (tr_X1_addEnd h22) gX7_repeat_X1_addEnd rfl rfl rfl (by decide) (na := 1) (by decide +kernel) rfl ⟨by decide, by decide⟩ (Nat.zero_le _) (Nat.le_of_ble_eq_true rfl) dX7_repeat_92 ?_
        refine aw_aload_n hK 2 rfl dX7_repeat_95 ?_
        rcases calx_some hF with ⟨r26, m25, h24, hF⟩ | ⟨x_27, m25, h24, hF⟩
        · refine aw_cv hK 7 (as := []) (trN_X7_keepDraft h24) gX7_repeat_X7_keepDraft rfl rfl rfl (by decide) (na := 0) (by decide +kernel) rfl ⟨by decide, by decide⟩ (Nat.zero_le _) (Nat.le_of_ble_eq_true rfl) dX7_repeat_96 ?_
          obtain ⟨e1, rfl⟩ := so_inj hF
          cases e1
          exact aw_iret hK hR rfl dX7_repeat_99
        · cases hF
      · have hF := if_f hF hc
        refine aw_sub [] (lv' := []) rfl ?_
        exact bkN_X7_repeat_28 hK hR hF
  · cases hF
