def B_X7_best_39 (N : Nat) (m : Mem) (s0 : Int32) : Option ((Int32 ⊕ Nat) × Mem) :=
  some (.inl s0, m)
set_option maxRecDepth 100000 in
set_option maxHeartbeats 4000000 in
theorem bk_X7_best_39 {N : Nat} {K : KT} {m' : Mem} {res : Int32 ⊕ Nat} (hK : KOK K cX7_best 4 RX7 wsX7_best 7 2 119) (hR : KX K (some .int) (xo true res) m' 2) {m : Mem} {s0 : Int32} (hF : B_X7_best_39 N m s0 = some (res, m')) : AW K 2 39 [] [q_i s0] m := by
  unfold B_X7_best_39 at hF
  obtain ⟨rfl, rfl⟩ := so_inj hF
  exact aw_iretX hK hR rfl (Nat.le_of_ble_eq_true rfl) dX7_best_39
def F_X7_best (N : Nat) (m : Mem) (x1 : Int32) (x2 : Int32) (x3 : Int32) : Option ((Int32 ⊕ Nat) × Mem) :=
  calx (F_X7_needMachine N m x1) fun r3 m2 =>
  calx (F_X7_needPlace N m2 x3) fun r7 m6 =>
  calv (F_X7_lookUp N m6 x1 x2) fun m10 =>
  cal (F_X4_find N m10 (1 : Int32) (1 : Int32)) fun r13 m12 =>
  if r13 = (0 : Int32) then (
    B_X7_best_39 N m12 (-1 : Int32)
  ) else (
    cal (F_X4_foundLetter N m12 x3) fun r16 m15 =>
    B_X7_best_39 N m15 r16
  )
set_option maxRecDepth 100000 in
set_option maxHeartbeats 4000000 in
theorem trX_X7_best {N : Nat} {m m' : Mem} {res : Int32 ⊕ Nat} {x1 : Int32} {x2 : Int32} {x3 : Int32} (hF : F_X7_best N m x1 x2 x3 = some (res, m')) : TrX yX7_best wsX7_best 7 119 2 [q_r 0, q_i x1, q_i x2, q_i x3] m (xo true res) m' := by
  refine trX_of (bytes := cX7_best) (maxL := 4) (ret := (some .int)) (by decide) rfl (Nat.le_of_ble_eq_true rfl) (fun K hK hR => ?_)
  have hK : KOK K cX7_best 4 RX7 wsX7_best 7 2 119 := hK
  show AW K 0 0 [(0, q_r 0), (1, q_i x1), (2, q_i x2), (3, q_i x3)] [] m
  unfold F_X7_best at hF
  refine aw_aload_n hK 0 rfl dX7_best_0 ?_
  refine aw_iload_n hK 1 rfl dX7_best_1 ?_
  rcases calx_some hF with ⟨r3, m2, h1, hF⟩ | ⟨x_4, m2, h1, hF⟩
  · refine aw_cvXr hK (kxb hR) 7 (as := [q_i x1]) (trX_X7_needMachine h1) gX7_best_X7_needMachine rfl rfl rfl (by decide) (na := 1) (by decide +kernel) rfl ⟨by decide, by decide⟩ (Nat.le_of_ble_eq_true rfl) (Nat.le_of_ble_eq_true rfl) dX7_best_2 ?_
    refine aw_iload_n hK 3 rfl dX7_best_5 ?_
    rcases calx_some hF with ⟨r7, m6, h5, hF⟩ | ⟨x_8, m6, h5, hF⟩
    · refine aw_csXr hK (kxb hR) (as := [q_i x3]) (trX_X7_needPlace h5) gX7_best_X7_needPlace rfl (na := 1) (by decide +kernel) rfl ⟨by decide, by decide⟩ (Nat.le_of_ble_eq_true rfl) (Nat.le_of_ble_eq_true rfl) dX7_best_6 ?_
      refine aw_aload_n hK 0 rfl dX7_best_9 ?_
      refine aw_iload_n hK 1 rfl dX7_best_10 ?_
      refine aw_iload_n hK 2 rfl dX7_best_11 ?_
      obtain ⟨m10, h9, hF⟩ := calv_some hF
      refine aw_cv hK 7 (as := [q_i x1, q_i x2]) (tr_X7_lookUp h9) gX7_best_X7_lookUp rfl rfl rfl (by decide) (na := 2) (by decide +kernel) rfl ⟨by decide, by decide⟩ (Nat.le_of_ble_eq_true rfl) (Nat.le_of_ble_eq_true rfl) dX7_best_12 ?_
      refine aw_aload_n hK 0 rfl dX7_best_15 ?_
      refine gf_7_6 hK rfl (40) rfl (List.mem_of_getElem? (i := 1) rfl) dX7_best_16 ?_
      refine aw_iconst hK (1) rfl dX7_best_19 ?_
      refine aw_iconst hK (1) rfl dX7_best_20 ?_
      obtain ⟨r13, m12, h11, hF⟩ := cal_some hF
      refine aw_cv hK 4 (as := [q_i (1 : Int32), q_i (1 : Int32)]) (tr_X4_find h11) gX7_best_X4_find rfl rfl rfl (by decide) (na := 2) (by decide +kernel) rfl ⟨by decide, by decide⟩ (Nat.le_of_ble_eq_true rfl) (Nat.le_of_ble_eq_true rfl) dX7_best_21 ?_
      refine aw_if_ne hK 31 rfl dX7_best_24 (fun hc => ?_) (fun hc => ?_)
      · have hF := if_f hF hc
        refine aw_aload_n hK 0 rfl dX7_best_31 ?_
        refine gf_7_6 hK rfl (40) rfl (List.mem_of_getElem? (i := 1) rfl) dX7_best_32 ?_
        refine aw_iload_n hK 3 rfl dX7_best_35 ?_
        obtain ⟨r16, m15, h14, hF⟩ := cal_some hF
        refine aw_cv hK 4 (as := [q_i x3]) (tr_X4_foundLetter h14) gX7_best_X4_foundLetter rfl rfl rfl (by decide) (na := 1) (by decide +kernel) rfl ⟨by decide, by decide⟩ (Nat.le_of_ble_eq_true rfl) (Nat.le_of_ble_eq_true rfl) dX7_best_36 ?_
        refine aw_sub [] (lv' := []) rfl ?_
        exact bk_X7_best_39 hK hR hF
      · have hF := if_t hF hc
        refine aw_iconst hK (-1) rfl dX7_best_27 ?_
        refine aw_goto hK 39 rfl dX7_best_28 ?_
        refine aw_sub [] (lv' := []) rfl ?_
        exact bk_X7_best_39 hK hR hF
    · obtain ⟨rfl, rfl⟩ := Prod.mk.inj hF
      exact aw_csXx hK hR (as := [q_i x3]) (trX_X7_needPlace h5) gX7_best_X7_needPlace rfl (na := 1) (by decide +kernel) rfl ⟨by decide, by decide⟩ (Nat.le_of_ble_eq_true rfl) (Nat.le_of_ble_eq_true rfl) dX7_best_6
  · obtain ⟨rfl, rfl⟩ := Prod.mk.inj hF
    exact aw_cvXx hK hR 7 (as := [q_i x1]) (trX_X7_needMachine h1) gX7_best_X7_needMachine rfl rfl rfl (by decide) (na := 1) (by decide +kernel) rfl ⟨by decide, by decide⟩ (Nat.le_of_ble_eq_true rfl) (Nat.le_of_ble_eq_true rfl) dX7_best_2
set_option maxRecDepth 100000 in
set_option maxHeartbeats 4000000 in
theorem bkN_X7_best_39 {N : Nat} {K : KT} {m' : Mem} {r : Int32} (hK : KOK K cX7_best 4 RX7 wsX7_best 7 0 119) (hR : KRet K (some .int) (some r) m') {m : Mem} {s0 : Int32} (hF : B_X7_best_39 N m s0 = some (.inl r, m')) : AW K 0 39 [] [q_i s0] m := by
  unfold B_X7_best_39 at hF
  obtain ⟨e1, rfl⟩ := so_inj hF
  cases e1
  exact aw_iret hK hR rfl dX7_best_39
set_option maxRecDepth 100000 in
set_option maxHeartbeats 4000000 in
theorem trN_X7_best {N : Nat} {m m' : Mem} {r : Int32} {x1 : Int32} {x2 : Int32} {x3 : Int32} (hF : F_X7_best N m x1 x2 x3 = some (.inl r, m')) : Tr yX7_best wsX7_best 7 119 [q_r 0, q_i x1, q_i x2, q_i x3] m (some r) m' := by
  refine tr_of (bytes := cX7_best) (maxL := 4) (ret := (some .int)) (by decide) rfl (Nat.le_of_ble_eq_true rfl) (fun K hK hR => ?_)
  have hK : KOK K cX7_best 4 RX7 wsX7_best 7 0 119 := hK
  show AW K 0 0 [(0, q_r 0), (1, q_i x1), (2, q_i x2), (3, q_i x3)] [] m
  unfold F_X7_best at hF
  refine aw_aload_n hK 0 rfl dX7_best_0 ?_
  refine aw_iload_n hK 1 rfl dX7_best_1 ?_
  rcases calx_some hF with ⟨r3, m2, h1, hF⟩ | ⟨x_4, m2, h1, hF⟩
  · refine aw_cv hK 7 (as := [q_i x1]) (trN_X7_needMachine h1) gX7_best_X7_needMachine rfl rfl rfl (by decide) (na := 1) (by decide +kernel) rfl ⟨by decide, by decide⟩ (Nat.zero_le _) (Nat.le_of_ble_eq_true rfl) dX7_best_2 ?_
    refine aw_iload_n hK 3 rfl dX7_best_5 ?_
    rcases calx_some hF with ⟨r7, m6, h5, hF⟩ | ⟨x_8, m6, h5, hF⟩
    · refine aw_cs hK (as := [q_i x3]) (trN_X7_needPlace h5) gX7_best_X7_needPlace rfl (na := 1) (by decide +kernel) rfl ⟨by decide, by decide⟩ (Nat.zero_le _) (Nat.le_of_ble_eq_true rfl) dX7_best_6 ?_
      refine aw_aload_n hK 0 rfl dX7_best_9 ?_
      refine aw_iload_n hK 1 rfl dX7_best_10 ?_
      refine aw_iload_n hK 2 rfl dX7_best_11 ?_
      obtain ⟨m10, h9, hF⟩ := calv_some hF
      refine aw_cv hK 7 (as := [q_i x1, q_i x2]) (tr_X7_lookUp h9) gX7_best_X7_lookUp rfl rfl rfl (by decide) (na := 2) (by decide +kernel) rfl ⟨by decide, by decide⟩ (Nat.zero_le _) (Nat.le_of_ble_eq_true rfl) dX7_best_12 ?_
      refine aw_aload_n hK 0 rfl dX7_best_15 ?_
      refine gf_7_6 hK rfl (40) rfl (List.mem_of_getElem? (i := 1) rfl) dX7_best_16 ?_
      refine aw_iconst hK (1) rfl dX7_best_19 ?_
      refine aw_iconst hK (1) rfl dX7_best_20 ?_
      obtain ⟨r13, m12, h11, hF⟩ := cal_some hF
      refine aw_cv hK 4 (as := [q_i (1 : Int32), q_i (1 : Int32)]) (tr_X4_find h11) gX7_best_X4_find rfl rfl rfl (by decide) (na := 2) (by decide +kernel) rfl ⟨by decide, by decide⟩ (Nat.zero_le _) (Nat.le_of_ble_eq_true rfl) dX7_best_21 ?_
      refine aw_if_ne hK 31 rfl dX7_best_24 (fun hc => ?_) (fun hc => ?_)
      · have hF := if_f hF hc
        refine aw_aload_n hK 0 rfl dX7_best_31 ?_
        refine gf_7_6 hK rfl (40) rfl (List.mem_of_getElem? (i := 1) rfl) dX7_best_32 ?_
        refine aw_iload_n hK 3 rfl dX7_best_35 ?_
        obtain ⟨r16, m15, h14, hF⟩ := cal_some hF
        refine aw_cv hK 4 (as := [q_i x3]) (tr_X4_foundLetter h14) gX7_best_X4_foundLetter rfl rfl rfl (by decide) (na := 1) (by decide +kernel) rfl ⟨by decide, by decide⟩ (Nat.zero_le _) (Nat.le_of_ble_eq_true rfl) dX7_best_36 ?_
        refine aw_sub [] (lv' := []) rfl ?_
        exact bkN_X7_best_39 hK hR hF
      · have hF := if_t hF hc
        refine aw_iconst hK (-1) rfl dX7_best_27 ?_
        refine aw_goto hK 39 rfl dX7_best_28 ?_
        refine aw_sub [] (lv' := []) rfl ?_
        exact bkN_X7_best_39 hK hR hF
    · cases hF
  · cases hF
def F_X7_changes (N : Nat) (m : Mem) (x1 : Int32) : Option ((Int32 ⊕ Nat) × Mem) :=
  calx (F_X7_needMachine N m x1) fun r3 m2 =>
  gd (inb x1 (alen 2)) <|
  calv (F_X4_begin N m2 (200 + 4 * ix x1) (m2 0 1) (2 : Int32)) fun m7 =>
  cal (F_X4_leastCost N m7) fun r10 m9 =>
  some (.inl r10, m9)
set_option maxRecDepth 100000 in
set_option maxHeartbeats 4000000 in
theorem trX_X7_changes {N : Nat} {m m' : Mem} {res : Int32 ⊕ Nat} {x1 : Int32} (hF : F_X7_changes N m x1 = some (res, m')) : TrX yX7_changes wsX7_changes 7 111 1 [q_r 0, q_i x1] m (xo true res) m' := by
  refine trX_of (bytes := cX7_changes) (maxL := 2) (ret := (some .int)) (by decide) rfl (Nat.le_of_ble_eq_true rfl) (fun K hK hR => ?_)
  have hK : KOK K cX7_changes 2 RX7 wsX7_changes 7 1 111 := hK
  show AW K 0 0 [(0, q_r 0), (1, q_i x1)] [] m
  unfold F_X7_changes at hF
  refine aw_aload_n hK 0 rfl dX7_changes_0 ?_
  refine aw_iload_n hK 1 rfl dX7_changes_1 ?_
  rcases calx_some hF with ⟨r3, m2, h1, hF⟩ | ⟨x_4, m2, h1, hF⟩
  · refine aw_cvXr hK (kxb hR) 7 (as := [q_i x1]) (trX_X7_needMachine h1) gX7_changes_X7_needMachine rfl rfl rfl (by decide) (na := 1) (by decide +kernel) rfl ⟨by decide, by decide⟩ (Nat.le_of_ble_eq_true rfl) (Nat.le_of_ble_eq_true rfl) dX7_changes_2 ?_
    refine aw_aload_n hK 0 rfl dX7_changes_5 ?_
    refine gf_7_6 hK rfl (40) rfl (List.mem_of_getElem? (i := 1) rfl) dX7_changes_6 ?_
    refine aw_aload_n hK 0 rfl dX7_changes_9 ?_
    refine gf_7_2 hK rfl (2) rfl (List.mem_of_getElem? (i := 2) rfl) dX7_changes_10 ?_
    refine aw_iload_n hK 1 rfl dX7_changes_13 ?_
    obtain ⟨g5, hF⟩ := gd_some hF
    refine aw_aald hK rfl g5 dX7_changes_14 ?_
    refine aw_aload_n hK 0 rfl dX7_changes_15 ?_
    refine gf_7_0 hK rfl (1) rfl (List.mem_of_getElem? (i := 3) rfl) dX7_changes_16 ?_
    refine aw_aload_n hK 0 rfl dX7_changes_19 ?_
    refine gf_7_1 hK rfl (List.mem_of_getElem? (i := 4) rfl) dX7_changes_20 ?_
    refine aw_iconst hK (2) rfl dX7_changes_23 ?_
    obtain ⟨m7, h6, hF⟩ := calv_some hF
    refine aw_cv hK 4 (as := [q_r (200 + 4 * ix x1), q_r 1, q_i (m2 0 1), q_i (2 : Int32)]) (tr_X4_begin (kMi g5) h6) gX7_changes_X4_begin rfl rfl rfl (by decide) (na := 4) (by decide +kernel) rfl ⟨by decide, by decide⟩ (Nat.le_of_ble_eq_true rfl) (Nat.le_of_ble_eq_true rfl) dX7_changes_24 ?_
    refine aw_aload_n hK 0 rfl dX7_changes_27 ?_
    refine gf_7_6 hK rfl (40) rfl (List.mem_of_getElem? (i := 1) rfl) dX7_changes_28 ?_
    obtain ⟨r10, m9, h8, hF⟩ := cal_some hF
    refine aw_cv hK 4 (as := []) (tr_X4_leastCost h8) gX7_changes_X4_leastCost rfl rfl rfl (by decide) (na := 0) (by decide +kernel) rfl ⟨by decide, by decide⟩ (Nat.le_of_ble_eq_true rfl) (Nat.le_of_ble_eq_true rfl) dX7_changes_31 ?_
    obtain ⟨rfl, rfl⟩ := so_inj hF
    exact aw_iretX hK hR rfl (Nat.le_of_ble_eq_true rfl) dX7_changes_34
  · obtain ⟨rfl, rfl⟩ := Prod.mk.inj hF
    exact aw_cvXx hK hR 7 (as := [q_i x1]) (trX_X7_needMachine h1) gX7_changes_X7_needMachine rfl rfl rfl (by decide) (na := 1) (by decide +kernel) rfl ⟨by decide, by decide⟩ (Nat.le_of_ble_eq_true rfl) (Nat.le_of_ble_eq_true rfl) dX7_changes_2
set_option maxRecDepth 100000 in
set_option maxHeartbeats 4000000 in
theorem trN_X7_changes {N : Nat} {m m' : Mem} {r : Int32} {x1 : Int32} (hF : F_X7_changes N m x1 = some (.inl r, m')) : Tr yX7_changes wsX7_changes 7 111 [q_r 0, q_i x1] m (some r) m' := by
  refine tr_of (bytes := cX7_changes) (maxL := 2) (ret := (some .int)) (by decide) rfl (Nat.le_of_ble_eq_true rfl) (fun K hK hR => ?_)
  have hK : KOK K cX7_changes 2 RX7 wsX7_changes 7 0 111 := hK
  show AW K 0 0 [(0, q_r 0), (1, q_i x1)] [] m
  unfold F_X7_changes at hF
  refine aw_aload_n hK 0 rfl dX7_changes_0 ?_
  refine aw_iload_n hK 1 rfl dX7_changes_1 ?_
  rcases calx_some hF with ⟨r3, m2, h1, hF⟩ | ⟨x_4, m2, h1, hF⟩
  · refine aw_cv hK 7 (as := [q_i x1]) (trN_X7_needMachine h1) gX7_changes_X7_needMachine rfl rfl rfl (by decide) (na := 1) (by decide +kernel) rfl ⟨by decide, by decide⟩ (Nat.zero_le _) (Nat.le_of_ble_eq_true rfl) dX7_changes_2 ?_
    refine aw_aload_n hK 0 rfl dX7_changes_5 ?_
    refine gf_7_6 hK rfl (40) rfl (List.mem_of_getElem? (i := 1) rfl) dX7_changes_6 ?_
    refine aw_aload_n hK 0 rfl dX7_changes_9 ?_
    refine gf_7_2 hK rfl (2) rfl (List.mem_of_getElem? (i := 2) rfl) dX7_changes_10 ?_
    refine aw_iload_n hK 1 rfl dX7_changes_13 ?_
    obtain ⟨g5, hF⟩ := gd_some hF
    refine aw_aald hK rfl g5 dX7_changes_14 ?_
    refine aw_aload_n hK 0 rfl dX7_changes_15 ?_
    refine gf_7_0 hK rfl (1) rfl (List.mem_of_getElem? (i := 3) rfl) dX7_changes_16 ?_
    refine aw_aload_n hK 0 rfl dX7_changes_19 ?_
    refine gf_7_1 hK rfl (List.mem_of_getElem? (i := 4) rfl) dX7_changes_20 ?_
    refine aw_iconst hK (2) rfl dX7_changes_23 ?_
    obtain ⟨m7, h6, hF⟩ := calv_some hF
    refine aw_cv hK 4 (as := [q_r (200 + 4 * ix x1), q_r 1, q_i (m2 0 1), q_i (2 : Int32)]) (tr_X4_begin (kMi g5) h6) gX7_changes_X4_begin rfl rfl rfl (by decide) (na := 4) (by decide +kernel) rfl ⟨by decide, by decide⟩ (Nat.zero_le _) (Nat.le_of_ble_eq_true rfl) dX7_changes_24 ?_
    refine aw_aload_n hK 0 rfl dX7_changes_27 ?_
    refine gf_7_6 hK rfl (40) rfl (List.mem_of_getElem? (i := 1) rfl) dX7_changes_28 ?_
    obtain ⟨r10, m9, h8, hF⟩ := cal_some hF
    refine aw_cv hK 4 (as := []) (tr_X4_leastCost h8) gX7_changes_X4_leastCost rfl rfl rfl (by decide) (na := 0) (by decide +kernel) rfl ⟨by decide, by decide⟩ (Nat.zero_le _) (Nat.le_of_ble_eq_true rfl) dX7_changes_31 ?_
    obtain ⟨e1, rfl⟩ := so_inj hF
    cases e1
    exact aw_iret hK hR rfl dX7_changes_34
  · cases hF
def B_X7_mended_55 (N : Nat) (m : Mem) (s0 : Int32) : Option ((Int32 ⊕ Nat) × Mem) :=
  some (.inl s0, m)
set_option maxRecDepth 100000 in
set_option maxHeartbeats 4000000 in
theorem bk_X7_mended_55 {N : Nat} {K : KT} {m' : Mem} {res : Int32 ⊕ Nat} (hK : KOK K cX7_mended 3 RX7 wsX7_mended 7 2 119) (hR : KX K (some .int) (xo true res) m' 2) {m : Mem} {s0 : Int32} (hF : B_X7_mended_55 N m s0 = some (res, m')) : AW K 2 55 [] [q_i s0] m := by
  unfold B_X7_mended_55 at hF
  obtain ⟨rfl, rfl⟩ := so_inj hF
  exact aw_iretX hK hR rfl (Nat.le_of_ble_eq_true rfl) dX7_mended_55
def F_X7_mended (N : Nat) (m : Mem) (x1 : Int32) (x2 : Int32) : Option ((Int32 ⊕ Nat) × Mem) :=
  calx (F_X7_needMachine N m x1) fun r3 m2 =>
  calx (F_X7_needPlace N m2 x2) fun r7 m6 =>
  gd (inb x1 (alen 2)) <|
  calv (F_X4_begin N m6 (200 + 4 * ix x1) (m6 0 1) (2 : Int32)) fun m11 =>
  cal (F_X4_find N m11 (1 : Int32) (1 : Int32)) fun r14 m13 =>
  if r14 = (0 : Int32) then (
    B_X7_mended_55 N m13 (-1 : Int32)
  ) else (
    cal (F_X4_foundLetter N m13 x2) fun r17 m16 =>
    B_X7_mended_55 N m16 r17
  )
set_option maxRecDepth 100000 in
set_option maxHeartbeats 4000000 in
theorem trX_X7_mended {N : Nat} {m m' : Mem} {res : Int32 ⊕ Nat} {x1 : Int32} {x2 : Int32} (hF : F_X7_mended N m x1 x2 = some (res, m')) : TrX yX7_mended wsX7_mended 7 119 2 [q_r 0, q_i x1, q_i x2] m (xo true res) m' := by
  refine trX_of (bytes := cX7_mended) (maxL := 3) (ret := (some .int)) (by decide) rfl (Nat.le_of_ble_eq_true rfl) (fun K hK hR => ?_)
  have hK : KOK K cX7_mended 3 RX7 wsX7_mended 7 2 119 := hK
  show AW K 0 0 [(0, q_r 0), (1, q_i x1), (2, q_i x2)] [] m
  unfold F_X7_mended at hF
  refine aw_aload_n hK 0 rfl dX7_mended_0 ?_
  refine aw_iload_n hK 1 rfl dX7_mended_1 ?_
  rcases calx_some hF with ⟨r3, m2, h1, hF⟩ | ⟨x_4, m2, h1, hF⟩
  · refine aw_cvXr hK (kxb hR) 7 (as := [q_i x1]) (trX_X7_needMachine h1) gX7_mended_X7_needMachine rfl rfl rfl (by decide) (na := 1) (by decide +kernel) rfl ⟨by decide, by decide⟩ (Nat.le_of_ble_eq_true rfl) (Nat.le_of_ble_eq_true rfl) dX7_mended_2 ?_
    refine aw_iload_n hK 2 rfl dX7_mended_5 ?_
    rcases calx_some hF with ⟨r7, m6, h5, hF⟩ | ⟨x_8, m6, h5, hF⟩
    · refine aw_csXr hK (kxb hR) (as := [q_i x2]) (trX_X7_needPlace h5) gX7_mended_X7_needPlace rfl (na := 1) (by decide +kernel) rfl ⟨by decide, by decide⟩ (Nat.le_of_ble_eq_true rfl) (Nat.le_of_ble_eq_true rfl) dX7_mended_6 ?_
      refine aw_aload_n hK 0 rfl dX7_mended_9 ?_
      refine gf_7_6 hK rfl (40) rfl (List.mem_of_getElem? (i := 1) rfl) dX7_mended_10 ?_
      refine aw_aload_n hK 0 rfl dX7_mended_13 ?_
      refine gf_7_2 hK rfl (2) rfl (List.mem_of_getElem? (i := 2) rfl) dX7_mended_14 ?_
      refine aw_iload_n hK 1 rfl dX7_mended_17 ?_
      obtain ⟨g9, hF⟩ := gd_some hF
      refine aw_aald hK rfl g9 dX7_mended_18 ?_
      refine aw_aload_n hK 0 rfl dX7_mended_19 ?_
      refine gf_7_0 hK rfl (1) rfl (List.mem_of_getElem? (i := 3) rfl) dX7_mended_20 ?_
      refine aw_aload_n hK 0 rfl dX7_mended_23 ?_
      refine gf_7_1 hK rfl (List.mem_of_getElem? (i := 4) rfl) dX7_mended_24 ?_
      refine aw_iconst hK (2) rfl dX7_mended_27 ?_
      obtain ⟨m11, h10, hF⟩ := calv_some hF
      refine aw_cv hK 4 (as := [q_r (200 + 4 * ix x1), q_r 1, q_i (m6 0 1), q_i (2 : Int32)]) (tr_X4_begin (kMi g9) h10) gX7_mended_X4_begin rfl rfl rfl (by decide) (na := 4) (by decide +kernel) rfl ⟨by decide, by decide⟩ (Nat.le_of_ble_eq_true rfl) (Nat.le_of_ble_eq_true rfl) dX7_mended_28 ?_
      refine aw_aload_n hK 0 rfl dX7_mended_31 ?_
      refine gf_7_6 hK rfl (40) rfl (List.mem_of_getElem? (i := 1) rfl) dX7_mended_32 ?_
      refine aw_iconst hK (1) rfl dX7_mended_35 ?_
      refine aw_iconst hK (1) rfl dX7_mended_36 ?_
      obtain ⟨r14, m13, h12, hF⟩ := cal_some hF
      refine aw_cv hK 4 (as := [q_i (1 : Int32), q_i (1 : Int32)]) (tr_X4_find h12) gX7_mended_X4_find rfl rfl rfl (by decide) (na := 2) (by decide +kernel) rfl ⟨by decide, by decide⟩ (Nat.le_of_ble_eq_true rfl) (Nat.le_of_ble_eq_true rfl) dX7_mended_37 ?_
      refine aw_if_ne hK 47 rfl dX7_mended_40 (fun hc => ?_) (fun hc => ?_)
      · have hF := if_f hF hc
        refine aw_aload_n hK 0 rfl dX7_mended_47 ?_
        refine gf_7_6 hK rfl (40) rfl (List.mem_of_getElem? (i := 1) rfl) dX7_mended_48 ?_
        refine aw_iload_n hK 2 rfl dX7_mended_51 ?_
        obtain ⟨r17, m16, h15, hF⟩ := cal_some hF
        refine aw_cv hK 4 (as := [q_i x2]) (tr_X4_foundLetter h15) gX7_mended_X4_foundLetter rfl rfl rfl (by decide) (na := 1) (by decide +kernel) rfl ⟨by decide, by decide⟩ (Nat.le_of_ble_eq_true rfl) (Nat.le_of_ble_eq_true rfl) dX7_mended_52 ?_
        refine aw_sub [] (lv' := []) rfl ?_
        exact bk_X7_mended_55 hK hR hF
      · have hF := if_t hF hc
        refine aw_iconst hK (-1) rfl dX7_mended_43 ?_
        refine aw_goto hK 55 rfl dX7_mended_44 ?_
        refine aw_sub [] (lv' := []) rfl ?_
        exact bk_X7_mended_55 hK hR hF
    · obtain ⟨rfl, rfl⟩ := Prod.mk.inj hF
      exact aw_csXx hK hR (as := [q_i x2]) (trX_X7_needPlace h5) gX7_mended_X7_needPlace rfl (na := 1) (by decide +kernel) rfl ⟨by decide, by decide⟩ (Nat.le_of_ble_eq_true rfl) (Nat.le_of_ble_eq_true rfl) dX7_mended_6
  · obtain ⟨rfl, rfl⟩ := Prod.mk.inj hF
    exact aw_cvXx hK hR 7 (as := [q_i x1]) (trX_X7_needMachine h1) gX7_mended_X7_needMachine rfl rfl rfl (by decide) (na := 1) (by decide +kernel) rfl ⟨by decide, by decide⟩ (Nat.le_of_ble_eq_true rfl) (Nat.le_of_ble_eq_true rfl) dX7_mended_2
set_option maxRecDepth 100000 in
set_option maxHeartbeats 4000000 in
theorem bkN_X7_mended_55 {N : Nat} {K : KT} {m' : Mem} {r : Int32} (hK : KOK K cX7_mended 3 RX7 wsX7_mended 7 0 119) (hR : KRet K (some .int) (some r) m') {m : Mem} {s0 : Int32} (hF : B_X7_mended_55 N m s0 = some (.inl r, m')) : AW K 0 55 [] [q_i s0] m := by
  unfold B_X7_mended_55 at hF
  obtain ⟨e1, rfl⟩ := so_inj hF
  cases e1
  exact aw_iret hK hR rfl dX7_mended_55
set_option maxRecDepth 100000 in
set_option maxHeartbeats 4000000 in
theorem trN_X7_mended {N : Nat} {m m' : Mem} {r : Int32} {x1 : Int32} {x2 : Int32} (hF : F_X7_mended N m x1 x2 = some (.inl r, m')) : Tr yX7_mended wsX7_mended 7 119 [q_r 0, q_i x1, q_i x2] m (some r) m' := by
  refine tr_of (bytes := cX7_mended) (maxL := 3) (ret := (some .int)) (by decide) rfl (Nat.le_of_ble_eq_true rfl) (fun K hK hR => ?_)
  have hK : KOK K cX7_mended 3 RX7 wsX7_mended 7 0 119 := hK
  show AW K 0 0 [(0, q_r 0), (1, q_i x1), (2, q_i x2)] [] m
  unfold F_X7_mended at hF
  refine aw_aload_n hK 0 rfl dX7_mended_0 ?_
  refine aw_iload_n hK 1 rfl dX7_mended_1 ?_
  rcases calx_some hF with ⟨r3, m2, h1, hF⟩ | ⟨x_4, m2, h1, hF⟩
  · refine aw_cv hK 7 (as := [q_i x1]) (trN_X7_needMachine h1) gX7_mended_X7_needMachine rfl rfl rfl (by decide) (na := 1) (by decide +kernel) rfl ⟨by decide, by decide⟩ (Nat.zero_le _) (Nat.le_of_ble_eq_true rfl) dX7_mended_2 ?_
    refine aw_iload_n hK 2 rfl dX7_mended_5 ?_
    rcases calx_some hF with ⟨r7, m6, h5, hF⟩ | ⟨x_8, m6, h5, hF⟩
    · refine aw_cs hK (as := [q_i x2]) (trN_X7_needPlace h5) gX7_mended_X7_needPlace rfl (na := 1) (by decide +kernel) rfl ⟨by decide, by decide⟩ (Nat.zero_le _) (Nat.le_of_ble_eq_true rfl) dX7_mended_6 ?_
      refine aw_aload_n hK 0 rfl dX7_mended_9 ?_
      refine gf_7_6 hK rfl (40) rfl (List.mem_of_getElem? (i := 1) rfl) dX7_mended_10 ?_
      refine aw_aload_n hK 0 rfl dX7_mended_13 ?_
      refine gf_7_2 hK rfl (2) rfl (List.mem_of_getElem? (i := 2) rfl) dX7_mended_14 ?_
      refine aw_iload_n hK 1 rfl dX7_mended_17 ?_
      obtain ⟨g9, hF⟩ := gd_some hF
      refine aw_aald hK rfl g9 dX7_mended_18 ?_
      refine aw_aload_n hK 0 rfl dX7_mended_19 ?_
      refine gf_7_0 hK rfl (1) rfl (List.mem_of_getElem? (i := 3) rfl) dX7_mended_20 ?_
      refine aw_aload_n hK 0 rfl dX7_mended_23 ?_
      refine gf_7_1 hK rfl (List.mem_of_getElem? (i := 4) rfl) dX7_mended_24 ?_
      refine aw_iconst hK (2) rfl dX7_mended_27 ?_
      obtain ⟨m11, h10, hF⟩ := calv_some hF
      refine aw_cv hK 4 (as := [q_r (200 + 4 * ix x1), q_r 1, q_i (m6 0 1), q_i (2 : Int32)]) (tr_X4_begin (kMi g9) h10) gX7_mended_X4_begin rfl rfl rfl (by decide) (na := 4) (by decide +kernel) rfl ⟨by decide, by decide⟩ (Nat.zero_le _) (Nat.le_of_ble_eq_true rfl) dX7_mended_28 ?_
      refine aw_aload_n hK 0 rfl dX7_mended_31 ?_
      refine gf_7_6 hK rfl (40) rfl (List.mem_of_getElem? (i := 1) rfl) dX7_mended_32 ?_
      refine aw_iconst hK (1) rfl dX7_mended_35 ?_
      refine aw_iconst hK (1) rfl dX7_mended_36 ?_
      obtain ⟨r14, m13, h12, hF⟩ := cal_some hF
      refine aw_cv hK 4 (as := [q_i (1 : Int32), q_i (1 : Int32)]) (tr_X4_find h12) gX7_mended_X4_find rfl rfl rfl (by decide) (na := 2) (by decide +kernel) rfl ⟨by decide, by decide⟩ (Nat.zero_le _) (Nat.le_of_ble_eq_true rfl) dX7_mended_37 ?_
      refine aw_if_ne hK 47 rfl dX7_mended_40 (fun hc => ?_) (fun hc => ?_)
      · have hF := if_f hF hc
        refine aw_aload_n hK 0 rfl dX7_mended_47 ?_
        refine gf_7_6 hK rfl (40) rfl (List.mem_of_getElem? (i := 1) rfl) dX7_mended_48 ?_
        refine aw_iload_n hK 2 rfl dX7_mended_51 ?_
        obtain ⟨r17, m16, h15, hF⟩ := cal_some hF
        refine aw_cv hK 4 (as := [q_i x2]) (tr_X4_foundLetter h15) gX7_mended_X4_foundLetter rfl rfl rfl (by decide) (na := 1) (by decide +kernel) rfl ⟨by decide, by decide⟩ (Nat.zero_le _) (Nat.le_of_ble_eq_true rfl) dX7_mended_52 ?_
        refine aw_sub [] (lv' := []) rfl ?_
        exact bkN_X7_mended_55 hK hR hF
      · have hF := if_t hF hc
        refine aw_iconst hK (-1) rfl dX7_mended_43 ?_
        refine aw_goto hK 55 rfl dX7_mended_44 ?_
        refine aw_sub [] (lv' := []) rfl ?_
        exact bkN_X7_mended_55 hK hR hF
    · cases hF
  · cases hF
def F_X7_apart (N : Nat) (m : Mem) (x1 : Int32) (x2 : Int32) (x3 : Int32) : Option ((Int32 ⊕ Nat) × Mem) :=
  calx (F_X7_needMachine N m x1) fun r3 m2 =>
  calx (F_X7_needMachine N m2 x2) fun r7 m6 =>
  calx (F_X7_needPlace N m6 x3) fun r11 m10 =>
  calx (F_X7_needPlain N m10 x1) fun r15 m14 =>
  calx (F_X7_needPlain N m14 x2) fun r19 m18 =>
  gd (inb x1 (alen 2)) <|
  gd (inb x2 (alen 2)) <|
  cal (F_X5_exploreTwo N m18 (200 + 4 * ix x1) (200 + 4 * ix x2) (2 : Int32)) fun r25 m24 =>
  calx (F_X7_needSets N m24 r25) fun r28 m27 =>
  cal (F_X5_firstWantedLetter N m27 x3) fun r32 m31 =>
  some (.inl r32, m31)
set_option maxRecDepth 100000 in
set_option maxHeartbeats 4000000 in
theorem trX_X7_apart {N : Nat} {m m' : Mem} {res : Int32 ⊕ Nat} {x1 : Int32} {x2 : Int32} {x3 : Int32} (hF : F_X7_apart N m x1 x2 x3 = some (res, m')) : TrX yX7_apart wsX7_apart 7 111 6 [q_r 0, q_i x1, q_i x2, q_i x3] m (xo true res) m' := by
  refine trX_of (bytes := cX7_apart) (maxL := 4) (ret := (some .int)) (by decide) rfl (Nat.le_of_ble_eq_true rfl) (fun K hK hR => ?_)
  have hK : KOK K cX7_apart 4 RX7 wsX7_apart 7 6 111 := hK
  show AW K 0 0 [(0, q_r 0), (1, q_i x1), (2, q_i x2), (3, q_i x3)] [] m
  unfold F_X7_apart at hF
  refine aw_aload_n hK 0 rfl dX7_apart_0 ?_
  refine aw_iload_n hK 1 rfl dX7_apart_1 ?_
  rcases calx_some hF with ⟨r3, m2, h1, hF⟩ | ⟨x_4, m2, h1, hF⟩
  · refine aw_cvXr hK (kxb hR) 7 (as := [q_i x1]) (trX_X7_needMachine h1) gX7_apart_X7_needMachine rfl rfl rfl (by decide) (na := 1) (by decide +kernel) rfl ⟨by decide, by decide⟩ (Nat.le_of_ble_eq_true rfl) (Nat.le_of_ble_eq_true rfl) dX7_apart_2 ?_
    refine aw_aload_n hK 0 rfl dX7_apart_5 ?_
    refine aw_iload_n hK 2 rfl dX7_apart_6 ?_
    rcases calx_some hF with ⟨r7, m6, h5, hF⟩ | ⟨x_8, m6, h5, hF⟩
    · refine aw_cvXr hK (kxb hR) 7 (as := [q_i x2]) (trX_X7_needMachine h5) gX7_apart_X7_needMachine rfl rfl rfl (by decide) (na := 1) (by decide +kernel) rfl ⟨by decide, by decide⟩ (Nat.le_of_ble_eq_true rfl) (Nat.le_of_ble_eq_true rfl) dX7_apart_7 ?_
      refine aw_iload_n hK 3 rfl dX7_apart_10 ?_
      rcases calx_some hF with ⟨r11, m10, h9, hF⟩ | ⟨x_12, m10, h9, hF⟩
      · refine aw_csXr hK (kxb hR) (as := [q_i x3]) (trX_X7_needPlace h9) gX7_apart_X7_needPlace rfl (na := 1) (by decide +kernel) rfl ⟨by decide, by decide⟩ (Nat.le_of_ble_eq_true rfl) (Nat.le_of_ble_eq_true rfl) dX7_apart_11 ?_
        refine aw_aload_n hK 0 rfl dX7_apart_14 ?_
        refine aw_iload_n hK 1 rfl dX7_apart_15 ?_
        rcases calx_some hF with ⟨r15, m14, h13, hF⟩ | ⟨x_16, m14, h13, hF⟩
        · refine aw_cvXr hK (kxb hR) 7 (as := [q_i x1]) (trX_X7_needPlain h13) gX7_apart_X7_needPlain rfl rfl rfl (by decide) (na := 1) (by decide +kernel) rfl ⟨by decide, by decide⟩ (Nat.le_of_ble_eq_true rfl) (Nat.le_of_ble_eq_true rfl) dX7_apart_16 ?_
          refine aw_aload_n hK 0 rfl dX7_apart_19 ?_
          refine aw_iload_n hK 2 rfl dX7_apart_20 ?_
          rcases calx_some hF with ⟨r19, m18, h17, hF⟩ | ⟨x_20, m18, h17, hF⟩
          · refine aw_cvXr hK (kxb hR) 7 (as := [q_i x2]) (trX_X7_needPlain h17) gX7_apart_X7_needPlain rfl rfl rfl (by decide) (na := 1) (by decide +kernel) rfl ⟨by decide, by decide⟩ (Nat.le_of_ble_eq_true rfl) (Nat.le_of_ble_eq_true rfl) dX7_apart_21 ?_
            refine aw_aload_n hK 0 rfl dX7_apart_24 ?_
            refine gf_7_5 hK rfl (20) rfl (List.mem_of_getElem? (i := 1) rfl) dX7_apart_25 ?_
            refine aw_aload_n hK 0 rfl dX7_apart_28 ?_
            refine gf_7_2 hK rfl (2) rfl (List.mem_of_getElem? (i := 2) rfl) dX7_apart_29 ?_
            refine aw_iload_n hK 1 rfl dX7_apart_32 ?_
            obtain ⟨g21, hF⟩ := gd_some hF
            refine aw_aald hK rfl g21 dX7_apart_33 ?_
            refine aw_aload_n hK 0 rfl dX7_apart_34 ?_
            refine gf_7_2 hK rfl (2) rfl (List.mem_of_getElem? (i := 2) rfl) dX7_apart_35 ?_
            refine aw_iload_n hK 2 rfl dX7_apart_38 ?_
            obtain ⟨g22, hF⟩ := gd_some hF
            refine aw_aald hK rfl g22 dX7_apart_39 ?_
            refine aw_iconst hK (2) rfl dX7_apart_40 ?_
            obtain ⟨r25, m24, h23, hF⟩ := cal_some hF
            refine aw_cv hK 5 (as := [q_r (200 + 4 * ix x1), q_r (200 + 4 * ix x2), q_i (2 : Int32)]) (tr_X5_exploreTwo (kMi g21) (kMi g22) h23) gX7_apart_X5_exploreTwo rfl rfl rfl (by decide) (na := 3) (by decide +kernel) rfl ⟨by decide, by decide⟩ (Nat.le_of_ble_eq_true rfl) (Nat.le_of_ble_eq_true rfl) dX7_apart_41 ?_
            rcases calx_some hF with ⟨r28, m27, h26, hF⟩ | ⟨x_29, m27, h26, hF⟩
            · refine aw_csXr hK (kxb hR) (as := [q_i r25]) (trX_X7_needSets h26) gX7_apart_X7_needSets rfl (na := 1) (by decide +kernel) rfl ⟨by decide, by decide⟩ (Nat.le_of_ble_eq_true rfl) (Nat.le_of_ble_eq_true rfl) dX7_apart_44 ?_
              refine aw_aload_n hK 0 rfl dX7_apart_47 ?_
              refine gf_7_5 hK rfl (20) rfl (List.mem_of_getElem? (i := 1) rfl) dX7_apart_48 ?_
              refine aw_iload_n hK 3 rfl dX7_apart_51 ?_
              obtain ⟨r32, m31, h30, hF⟩ := cal_some hF
              refine aw_cv hK 5 (as := [q_i x3]) (tr_X5_firstWantedLetter h30) gX7_apart_X5_firstWantedLetter rfl rfl rfl (by decide) (na := 1) (by decide +kernel) rfl ⟨by decide, by decide⟩ (Nat.le_of_ble_eq_true rfl) (Nat.le_of_ble_eq_true rfl) dX7_apart_52 ?_
              obtain ⟨rfl, rfl⟩ := so_inj hF
              exact aw_iretX hK hR rfl (Nat.le_of_ble_eq_true rfl) dX7_apart_55
            · obtain ⟨rfl, rfl⟩ := Prod.mk.inj hF
              exact aw_csXx hK hR (as := [q_i r25]) (trX_X7_needSets h26) gX7_apart_X7_needSets rfl (na := 1) (by decide +kernel) rfl ⟨by decide, by decide⟩ (Nat.le_of_ble_eq_true rfl) (Nat.le_of_ble_eq_true rfl) dX7_apart_44
          · obtain ⟨rfl, rfl⟩ := Prod.mk.inj hF
            exact aw_cvXx hK hR 7 (as := [q_i x2]) (trX_X7_needPlain h17) gX7_apart_X7_needPlain rfl rfl rfl (by decide) (na := 1) (by decide +kernel) rfl ⟨by decide, by decide⟩ (Nat.le_of_ble_eq_true rfl) (Nat.le_of_ble_eq_true rfl) dX7_apart_21
        · obtain ⟨rfl, rfl⟩ := Prod.mk.inj hF
          exact aw_cvXx hK hR 7 (as := [q_i x1]) (trX_X7_needPlain h13) gX7_apart_X7_needPlain rfl rfl rfl (by decide) (na := 1) (by decide +kernel) rfl ⟨by decide, by decide⟩ (Nat.le_of_ble_eq_true rfl) (Nat.le_of_ble_eq_true rfl) dX7_apart_16
      · obtain ⟨rfl, rfl⟩ := Prod.mk.inj hF
        exact aw_csXx hK hR (as := [q_i x3]) (trX_X7_needPlace h9) gX7_apart_X7_needPlace rfl (na := 1) (by decide +kernel) rfl ⟨by decide, by decide⟩ (Nat.le_of_ble_eq_true rfl) (Nat.le_of_ble_eq_true rfl) dX7_apart_11
    · obtain ⟨rfl, rfl⟩ := Prod.mk.inj hF
      exact aw_cvXx hK hR 7 (as := [q_i x2]) (trX_X7_needMachine h5) gX7_apart_X7_needMachine rfl rfl rfl (by decide) (na := 1) (by decide +kernel) rfl ⟨by decide, by decide⟩ (Nat.le_of_ble_eq_true rfl) (Nat.le_of_ble_eq_true rfl) dX7_apart_7
  · obtain ⟨rfl, rfl⟩ := Prod.mk.inj hF
    exact aw_cvXx hK hR 7 (as := [q_i x1]) (trX_X7_needMachine h1) gX7_apart_X7_needMachine rfl rfl rfl (by decide) (na := 1) (by decide +kernel) rfl ⟨by decide, by decide⟩ (Nat.le_of_ble_eq_true rfl) (Nat.le_of_ble_eq_true rfl) dX7_apart_2
set_option maxRecDepth 100000 in
set_option maxHeartbeats 4000000 in
theorem trN_X7_apart {N : Nat} {m m' : Mem} {r : Int32} {x1 : Int32} {x2 : Int32} {x3 : Int32} (hF : F_X7_apart N m x1 x2 x3 = some (.inl r, m')) : Tr yX7_apart wsX7_apart 7 111 [q_r 0, q_i x1, q_i x2, q_i x3] m (some r) m' := by
  refine tr_of (bytes := cX7_apart) (maxL := 4) (ret := (some .int)) (by decide) rfl (Nat.le_of_ble_eq_true rfl) (fun K hK hR => ?_)
  have hK : KOK K cX7_apart 4 RX7 wsX7_apart 7 0 111 := hK
  show AW K 0 0 [(0, q_r 0), (1, q_i x1), (2, q_i x2), (3, q_i x3)] [] m
  unfold F_X7_apart at hF
  refine aw_aload_n hK 0 rfl dX7_apart_0 ?_
  refine aw_iload_n hK 1 rfl dX7_apart_1 ?_
  rcases calx_some hF with ⟨r3, m2, h1, hF⟩ | ⟨x_4, m2, h1, hF⟩
  · refine aw_cv hK 7 (as := [q_i x1]) (trN_X7_needMachine h1) gX7_apart_X7_needMachine rfl rfl rfl (by decide) (na := 1) (by decide +kernel) rfl ⟨by decide, by decide⟩ (Nat.zero_le _) (Nat.le_of_ble_eq_true rfl) dX7_apart_2 ?_
    refine aw_aload_n hK 0 rfl dX7_apart_5 ?_
    refine aw_iload_n hK 2 rfl dX7_apart_6 ?_
    rcases calx_some hF with ⟨r7, m6, h5, hF⟩ | ⟨x_8, m6, h5, hF⟩
    · refine aw_cv hK 7 (as := [q_i x2]) (trN_X7_needMachine h5) gX7_apart_X7_needMachine rfl rfl rfl (by decide) (na := 1) (by decide +kernel) rfl ⟨by decide, by decide⟩ (Nat.zero_le _) (Nat.le_of_ble_eq_true rfl) dX7_apart_7 ?_
      refine aw_iload_n hK 3 rfl dX7_apart_10 ?_
      rcases calx_some hF with ⟨r11, m10, h9, hF⟩ | ⟨x_12, m10, h9, hF⟩
      · refine aw_cs hK (as := [q_i x3]) (trN_X7_needPlace h9) gX7_apart_X7_needPlace rfl (na := 1) (by decide +kernel) rfl ⟨by decide, by decide⟩ (Nat.zero_le _) (Nat.le_of_ble_eq_true rfl) dX7_apart_11 ?_
        refine aw_aload_n hK 0 rfl dX7_apart_14 ?_
        refine aw_iload_n hK 1 rfl dX7_apart_15 ?_
        rcases calx_some hF with ⟨r15, m14, h13, hF⟩ | ⟨x_16, m14, h13, hF⟩
        · refine aw_cv hK 7 (as := [q_i x1]) (trN_X7_needPlain h13) gX7_apart_X7_needPlain rfl rfl rfl (by decide) (na := 1) (by decide +kernel) rfl ⟨by decide, by decide⟩ (Nat.zero_le _) (Nat.le_of_ble_eq_true rfl) dX7_apart_16 ?_
          refine aw_aload_n hK 0 rfl dX7_apart_19 ?_
          refine aw_iload_n hK 2 rfl dX7_apart_20 ?_
          rcases calx_some hF with ⟨r19, m18, h17, hF⟩ | ⟨x_20, m18, h17, hF⟩
          · refine aw_cv hK 7 (as := [q_i x2]) (trN_X7_needPlain h17) gX7_apart_X7_needPlain rfl rfl rfl (by decide) (na := 1) (by decide +kernel) rfl ⟨by decide, by decide⟩ (Nat.zero_le _) (Nat.le_of_ble_eq_true rfl) dX7_apart_21 ?_
            refine aw_aload_n hK 0 rfl dX7_apart_24 ?_
            refine gf_7_5 hK rfl (20) rfl (List.mem_of_getElem? (i := 1) rfl) dX7_apart_25 ?_
            refine aw_aload_n hK 0 rfl dX7_apart_28 ?_
            refine gf_7_2 hK rfl (2) rfl (List.mem_of_getElem? (i := 2) rfl) dX7_apart_29 ?_
            refine aw_iload_n hK 1 rfl dX7_apart_32 ?_
            obtain ⟨g21, hF⟩ := gd_some hF
            refine aw_aald hK rfl g21 dX7_apart_33 ?_
            refine aw_aload_n hK 0 rfl dX7_apart_34 ?_
            refine gf_7_2 hK rfl (2) rfl (List.mem_of_getElem? (i := 2) rfl) dX7_apart_35 ?_
            refine aw_iload_n hK 2 rfl dX7_apart_38 ?_
            obtain ⟨g22, hF⟩ := gd_some hF
            refine aw_aald hK rfl g22 dX7_apart_39 ?_
            refine aw_iconst hK (2) rfl dX7_apart_40 ?_
            obtain ⟨r25, m24, h23, hF⟩ := cal_some hF
            refine aw_cv hK 5 (as := [q_r (200 + 4 * ix x1), q_r (200 + 4 * ix x2), q_i (2 : Int32)]) (tr_X5_exploreTwo (kMi g21) (kMi g22) h23) gX7_apart_X5_exploreTwo rfl rfl rfl (by decide) (na := 3) (by decide +kernel) rfl ⟨by decide, by decide⟩ (Nat.zero_le _) (Nat.le_of_ble_eq_true rfl) dX7_apart_41 ?_
            rcases calx_some hF with ⟨r28, m27, h26, hF⟩ | ⟨x_29, m27, h26, hF⟩
            · refine aw_cs hK (as := [q_i r25]) (trN_X7_needSets h26) gX7_apart_X7_needSets rfl (na := 1) (by decide +kernel) rfl ⟨by decide, by decide⟩ (Nat.zero_le _) (Nat.le_of_ble_eq_true rfl) dX7_apart_44 ?_
              refine aw_aload_n hK 0 rfl dX7_apart_47 ?_
              refine gf_7_5 hK rfl (20) rfl (List.mem_of_getElem? (i := 1) rfl) dX7_apart_48 ?_
              refine aw_iload_n hK 3 rfl dX7_apart_51 ?_
              obtain ⟨r32, m31, h30, hF⟩ := cal_some hF
              refine aw_cv hK 5 (as := [q_i x3]) (tr_X5_firstWantedLetter h30) gX7_apart_X5_firstWantedLetter rfl rfl rfl (by decide) (na := 1) (by decide +kernel) rfl ⟨by decide, by decide⟩ (Nat.zero_le _) (Nat.le_of_ble_eq_true rfl) dX7_apart_52 ?_
              obtain ⟨e1, rfl⟩ := so_inj hF
              cases e1
              exact aw_iret hK hR rfl dX7_apart_55
            · cases hF
          · cases hF
        · cases hF
      · cases hF
    · cases hF
  · cases hF
def B_X7_ruled_74 (N : Nat) (rec_19 : Mem → Int32 → Int32 → Int32 → Int32 → Int32 → Int32 → Int32 → Option ((Int32 ⊕ Nat) × Mem)) (m : Mem) (x1 : Int32) (x2 : Int32) (x3 : Int32) (x4 : Int32) (x5 : Int32) (x6 : Int32) (x7 : Int32) : Option ((Int32 ⊕ Nat) × Mem) :=
  bnd (x7 + (1 : Int32)) fun y14 =>
  rec_19 m x1 x2 x3 x4 x5 x6 y14
set_option maxRecDepth 100000 in
set_option maxHeartbeats 4000000 in
theorem bk_X7_ruled_74 {N : Nat} {K : KT} {m' : Mem} {rec_19 : Mem → Int32 → Int32 → Int32 → Int32 → Int32 → Int32 → Int32 → Option ((Int32 ⊕ Nat) × Mem)} {res : Int32 ⊕ Nat} (hK : KOK K cX7_ruled 9 RX7 wsX7_ruled 7 2 113) (hR : KX K (some .int) (xo true res) m' 2) (hrec_19 : ∀ {m : Mem} {x1 : Int32} {x2 : Int32} {x3 : Int32} {x4 : Int32} {x5 : Int32} {x6 : Int32} {x7 : Int32}, rec_19 m x1 x2 x3 x4 x5 x6 x7 = some (res, m') → AW K 2 19 [(0, q_r 0), (1, q_i x1), (2, q_i x2), (3, q_i x3), (4, q_i x4), (5, q_i x5), (6, q_i x6), (7, q_i x7)] [] m) {m : Mem} {x1 : Int32} {x2 : Int32} {x3 : Int32} {x4 : Int32} {x5 : Int32} {x6 : Int32} {x7 : Int32} (hF : B_X7_ruled_74 N rec_19 m x1 x2 x3 x4 x5 x6 x7 = some (res, m')) : AW K 2 74 [(0, q_r 0), (1, q_i x1), (2, q_i x2), (3, q_i x3), (4, q_i x4), (5, q_i x5), (6, q_i x6), (7, q_i x7)] [] m := by
  unfold B_X7_ruled_74 at hF
  obtain ⟨y14, hy14, hF⟩ := bnd_some hF
  refine aw_iinc hK (cz := 1) 7 [(7, q_i y14), (0, q_r 0), (1, q_i x1), (2, q_i x2), (3, q_i x3), (4, q_i x4), (5, q_i x5), (6, q_i x6)] (by decide) rfl rfl hy14 rfl dX7_ruled_74 ?_
  refine aw_goto hK 19 rfl dX7_ruled_77 ?_
  refine aw_sub [1, 2, 3, 4, 5, 6, 7, 0] (lv' := [(0, q_r 0), (1, q_i x1), (2, q_i x2), (3, q_i x3), (4, q_i x4), (5, q_i x5), (6, q_i x6), (7, q_i y14)]) rfl ?_
  exact hrec_19 hF
def B_X7_ruled_52 (N : Nat) (rec_19 : Mem → Int32 → Int32 → Int32 → Int32 → Int32 → Int32 → Int32 → Option ((Int32 ⊕ Nat) × Mem)) (m : Mem) (x1 : Int32) (x2 : Int32) (x3 : Int32) (x4 : Int32) (x5 : Int32) (x6 : Int32) (x7 : Int32) (s0 : Int32) : Option ((Int32 ⊕ Nat) × Mem) :=
  if s0 = (8 : Int32) then (
    B_X7_ruled_74 N rec_19 m x1 x2 x3 x4 x5 x6 x7
  ) else (
    if x6 = x5 then (
      some (.inl s0, m)
    ) else (
      bnd (x6 + (1 : Int32)) fun y13 =>
      B_X7_ruled_74 N rec_19 m x1 x2 x3 x4 x5 y13 x7
    )
  )
set_option maxRecDepth 100000 in
set_option maxHeartbeats 4000000 in
theorem bk_X7_ruled_52 {N : Nat} {K : KT} {m' : Mem} {rec_19 : Mem → Int32 → Int32 → Int32 → Int32 → Int32 → Int32 → Int32 → Option ((Int32 ⊕ Nat) × Mem)} {res : Int32 ⊕ Nat} (hK : KOK K cX7_ruled 9 RX7 wsX7_ruled 7 2 113) (hR : KX K (some .int) (xo true res) m' 2) (hrec_19 : ∀ {m : Mem} {x1 : Int32} {x2 : Int32} {x3 : Int32} {x4 : Int32} {x5 : Int32} {x6 : Int32} {x7 : Int32}, rec_19 m x1 x2 x3 x4 x5 x6 x7 = some (res, m') → AW K 2 19 [(0, q_r 0), (1, q_i x1), (2, q_i x2), (3, q_i x3), (4, q_i x4), (5, q_i x5), (6, q_i x6), (7, q_i x7)] [] m) {m : Mem} {x1 : Int32} {x2 : Int32} {x3 : Int32} {x4 : Int32} {x5 : Int32} {x6 : Int32} {x7 : Int32} {s0 : Int32} (hF : B_X7_ruled_52 N rec_19 m x1 x2 x3 x4 x5 x6 x7 s0 = some (res, m')) : AW K 2 52 [(0, q_r 0), (1, q_i x1), (2, q_i x2), (3, q_i x3), (4, q_i x4), (5, q_i x5), (6, q_i x6), (7, q_i x7)] [q_i s0] m := by
  unfold B_X7_ruled_52 at hF
  refine aw_istore hK [(8, q_i s0), (0, q_r 0), (1, q_i x1), (2, q_i x2), (3, q_i x3), (4, q_i x4), (5, q_i x5), (6, q_i x6), (7, q_i x7)] (by decide) rfl dX7_ruled_52 ?_
  refine aw_iload hK 0 rfl dX7_ruled_54 ?_
  refine aw_bipush hK (8) rfl dX7_ruled_56 ?_
  refine aw_icmp_eq hK 74 rfl dX7_ruled_58 (fun hc => ?_) (fun hc => ?_)
  · have hF := if_t hF hc
    refine aw_sub [1, 2, 3, 4, 5, 6, 7, 8] (lv' := [(0, q_r 0), (1, q_i x1), (2, q_i x2), (3, q_i x3), (4, q_i x4), (5, q_i x5), (6, q_i x6), (7, q_i x7)]) rfl ?_
    exact bk_X7_ruled_74 hK hR hrec_19 hF
  · have hF := if_f hF hc
    refine aw_iload hK 7 rfl dX7_ruled_61 ?_
    refine aw_iload hK 6 rfl dX7_ruled_63 ?_
    refine aw_icmp_ne hK 71 rfl dX7_ruled_65 (fun hc => ?_) (fun hc => ?_)
    · have hF := if_f hF hc
      obtain ⟨y13, hy13, hF⟩ := bnd_some hF
      refine aw_iinc hK (cz := 1) 7 [(6, q_i y13), (8, q_i s0), (0, q_r 0), (1, q_i x1), (2, q_i x2), (3, q_i x3), (4, q_i x4), (5, q_i x5), (7, q_i x7)] (by decide) rfl rfl hy13 rfl dX7_ruled_71 ?_
      refine aw_sub [2, 3, 4, 5, 6, 7, 0, 8] (lv' := [(0, q_r 0), (1, q_i x1), (2, q_i x2), (3, q_i x3), (4, q_i x4), (5, q_i x5), (6, q_i y13), (7, q_i x7)]) rfl ?_
      exact bk_X7_ruled_74 hK hR hrec_19 hF
    · have hF := if_t hF hc
      refine aw_iload hK 0 rfl dX7_ruled_68 ?_
      obtain ⟨rfl, rfl⟩ := so_inj hF
      exact aw_iretX hK hR rfl (Nat.le_of_ble_eq_true rfl) dX7_ruled_70
def S_X7_ruled_19 (N : Nat) (rec_19 : Mem → Int32 → Int32 → Int32 → Int32 → Int32 → Int32 → Int32 → Option ((Int32 ⊕ Nat) × Mem)) (m : Mem) (x1 : Int32) (x2 : Int32) (x3 : Int32) (x4 : Int32) (x5 : Int32) (x6 : Int32) (x7 : Int32) : Option ((Int32 ⊕ Nat) × Mem) :=
  if (m 0 1) ≤ x7 then (
    some (.inl (8 : Int32), m)
  ) else (
    cal (F_X7_isRewritten N m x7 x1 x3 x4) fun r11 m10 =>
    if r11 = (0 : Int32) then (
      gd (inb x7 (alen 1)) <|
      B_X7_ruled_52 N rec_19 m10 x1 x2 x3 x4 x5 x6 x7 (m10 1 (ix x7))
    ) else (
      B_X7_ruled_52 N rec_19 m10 x1 x2 x3 x4 x5 x6 x7 x2
    )
  )
def L_X7_ruled_19 (N : Nat) : Nat → Mem → Int32 → Int32 → Int32 → Int32 → Int32 → Int32 → Int32 → Option ((Int32 ⊕ Nat) × Mem)
  | 0 => fun _ _ _ _ _ _ _ _ => none
  | f + 1 => S_X7_ruled_19 N (L_X7_ruled_19 N f)
set_option maxRecDepth 100000 in
set_option maxHeartbeats 4000000 in
theorem lp_X7_ruled_19 {N : Nat} {K : KT} {m' : Mem} {res : Int32 ⊕ Nat} (hK : KOK K cX7_ruled 9 RX7 wsX7_ruled 7 2 113) (hR : KX K (some .int) (xo true res) m' 2) : ∀ (f : Nat) {m : Mem} {x1 : Int32} {x2 : Int32} {x3 : Int32} {x4 : Int32} {x5 : Int32} {x6 : Int32} {x7 : Int32}, L_X7_ruled_19 N f m x1 x2 x3 x4 x5 x6 x7 = some (res, m') → AW K 2 19 [(0, q_r 0), (1, q_i x1), (2, q_i x2), (3, q_i x3), (4, q_i x4), (5, q_i x5), (6, q_i x6), (7, q_i x7)] [] m := by
  intro f
  induction f with
  | zero => intro m x1 x2 x3 x4 x5 x6 x7 hF; cases hF
  | succ f hrec_19 =>
    intro m x1 x2 x3 x4 x5 x6 x7 hF
    have hF : S_X7_ruled_19 N (L_X7_ruled_19 N f) m x1 x2 x3 x4 x5 x6 x7 = some (res, m') := hF
    unfold S_X7_ruled_19 at hF
    refine aw_iload hK 7 rfl dX7_ruled_19 ?_
    refine aw_aload_n hK 0 rfl dX7_ruled_21 ?_
    refine gf_7_1 hK rfl (List.mem_of_getElem? (i := 1) rfl) dX7_ruled_22 ?_
    refine aw_icmp_ge hK 80 rfl dX7_ruled_25 (fun hc => ?_) (fun hc => ?_)
    · have hF := if_t hF hc
      refine aw_bipush hK (8) rfl dX7_ruled_80 ?_
      obtain ⟨rfl, rfl⟩ := so_inj hF
      exact aw_iretX hK hR rfl (Nat.le_of_ble_eq_true rfl) dX7_ruled_82
    · have hF := if_f hF hc
      refine aw_aload_n hK 0 rfl dX7_ruled_28 ?_
      refine aw_iload hK 7 rfl dX7_ruled_29 ?_
      refine aw_iload_n hK 1 rfl dX7_ruled_31 ?_
      refine aw_iload_n hK 3 rfl dX7_ruled_32 ?_
      refine aw_iload hK 4 rfl dX7_ruled_33 ?_
      obtain ⟨r11, m10, h9, hF⟩ := cal_some hF
      refine aw_cv hK 7 (as := [q_i x7, q_i x1, q_i x3, q_i x4]) (tr_X7_isRewritten h9) gX7_ruled_X7_isRewritten rfl rfl rfl (by decide) (na := 4) (by decide +kernel) rfl ⟨by decide, by decide⟩ (Nat.le_of_ble_eq_true rfl) (Nat.le_of_ble_eq_true rfl) dX7_ruled_35 ?_
      refine aw_if_eq hK 45 rfl dX7_ruled_38 (fun hc => ?_) (fun hc => ?_)
      · have hF := if_t hF hc
        refine aw_aload_n hK 0 rfl dX7_ruled_45 ?_
        refine gf_7_0 hK rfl (1) rfl (List.mem_of_getElem? (i := 2) rfl) dX7_ruled_46 ?_
        refine aw_iload hK 7 rfl dX7_ruled_49 ?_
        obtain ⟨g12, hF⟩ := gd_some hF
        refine aw_iald hK rfl g12 dX7_ruled_51 ?_
        refine aw_sub [0, 1, 2, 3, 4, 5, 6, 7] (lv' := [(0, q_r 0), (1, q_i x1), (2, q_i x2), (3, q_i x3), (4, q_i x4), (5, q_i x5), (6, q_i x6), (7, q_i x7)]) rfl ?_
        exact bk_X7_ruled_52 hK hR hrec_19 hF
      · have hF := if_f hF hc
        refine aw_iload_n hK 2 rfl dX7_ruled_41 ?_
        refine aw_goto hK 52 rfl dX7_ruled_42 ?_
        refine aw_sub [0, 1, 2, 3, 4, 5, 6, 7] (lv' := [(0, q_r 0), (1, q_i x1), (2, q_i x2), (3, q_i x3), (4, q_i x4), (5, q_i x5), (6, q_i x6), (7, q_i x7)]) rfl ?_
        exact bk_X7_ruled_52 hK hR hrec_19 hF
def F_X7_ruled (N : Nat) (m : Mem) (x1 : Int32) (x2 : Int32) (x3 : Int32) (x4 : Int32) (x5 : Int32) : Option ((Int32 ⊕ Nat) × Mem) :=
  calx (F_X7_needPlace N m x5) fun r3 m2 =>
  calx (F_X7_needRule N m2 x1 x2 x3 x4) fun r7 m6 =>
  L_X7_ruled_19 N N m6 x1 x2 x3 x4 x5 (0 : Int32) (0 : Int32)
set_option maxRecDepth 100000 in
set_option maxHeartbeats 4000000 in
theorem trX_X7_ruled {N : Nat} {m m' : Mem} {res : Int32 ⊕ Nat} {x1 : Int32} {x2 : Int32} {x3 : Int32} {x4 : Int32} {x5 : Int32} (hF : F_X7_ruled N m x1 x2 x3 x4 x5 = some (res, m')) : TrX yX7_ruled wsX7_ruled 7 113 2 [q_r 0, q_i x1, q_i x2, q_i x3, q_i x4, q_i x5] m (xo true res) m' := by
  refine trX_of (bytes := cX7_ruled) (maxL := 9) (ret := (some .int)) (by decide) rfl (Nat.le_of_ble_eq_true rfl) (fun K hK hR => ?_)
  have hK : KOK K cX7_ruled 9 RX7 wsX7_ruled 7 2 113 := hK
  show AW K 0 0 [(0, q_r 0), (1, q_i x1), (2, q_i x2), (3, q_i x3), (4, q_i x4), (5, q_i x5)] [] m
  unfold F_X7_ruled at hF
  refine aw_iload hK 5 rfl dX7_ruled_0 ?_
  rcases calx_some hF with ⟨r3, m2, h1, hF⟩ | ⟨x_4, m2, h1, hF⟩
  · refine aw_csXr hK (kxb hR) (as := [q_i x5]) (trX_X7_needPlace h1) gX7_ruled_X7_needPlace rfl (na := 1) (by decide +kernel) rfl ⟨by decide, by decide⟩ (Nat.le_of_ble_eq_true rfl) (Nat.le_of_ble_eq_true rfl) dX7_ruled_2 ?_
    refine aw_iload_n hK 1 rfl dX7_ruled_5 ?_
    refine aw_iload_n hK 2 rfl dX7_ruled_6 ?_
    refine aw_iload_n hK 3 rfl dX7_ruled_7 ?_
    refine aw_iload hK 4 rfl dX7_ruled_8 ?_
    rcases calx_some hF with ⟨r7, m6, h5, hF⟩ | ⟨x_8, m6, h5, hF⟩
    · refine aw_csXr hK (kxb hR) (as := [q_i x1, q_i x2, q_i x3, q_i x4]) (trX_X7_needRule h5) gX7_ruled_X7_needRule rfl (na := 4) (by decide +kernel) rfl ⟨by decide, by decide⟩ (Nat.le_of_ble_eq_true rfl) (Nat.le_of_ble_eq_true rfl) dX7_ruled_10 ?_
      refine aw_iconst hK (0) rfl dX7_ruled_13 ?_
      refine aw_istore hK [(6, q_i (0 : Int32)), (0, q_r 0), (1, q_i x1), (2, q_i x2), (3, q_i x3), (4, q_i x4), (5, q_i x5)] (by decide) rfl dX7_ruled_14 ?_
      refine aw_iconst hK (0) rfl dX7_ruled_16 ?_
      refine aw_istore hK [(7, q_i (0 : Int32)), (6, q_i (0 : Int32)), (0, q_r 0), (1, q_i x1), (2, q_i x2), (3, q_i x3), (4, q_i x4), (5, q_i x5)] (by decide) rfl dX7_ruled_17 ?_
      refine aw_sub [2, 3, 4, 5, 6, 7, 1, 0] (lv' := [(0, q_r 0), (1, q_i x1), (2, q_i x2), (3, q_i x3), (4, q_i x4), (5, q_i x5), (6, q_i (0 : Int32)), (7, q_i (0 : Int32))]) rfl ?_
      exact lp_X7_ruled_19 hK hR _ hF
    · obtain ⟨rfl, rfl⟩ := Prod.mk.inj hF
      exact aw_csXx hK hR (as := [q_i x1, q_i x2, q_i x3, q_i x4]) (trX_X7_needRule h5) gX7_ruled_X7_needRule rfl (na := 4) (by decide +kernel) rfl ⟨by decide, by decide⟩ (Nat.le_of_ble_eq_true rfl) (Nat.le_of_ble_eq_true rfl) dX7_ruled_10
  · obtain ⟨rfl, rfl⟩ := Prod.mk.inj hF
    exact aw_csXx hK hR (as := [q_i x5]) (trX_X7_needPlace h1) gX7_ruled_X7_needPlace rfl (na := 1) (by decide +kernel) rfl ⟨by decide, by decide⟩ (Nat.le_of_ble_eq_true rfl) (Nat.le_of_ble_eq_true rfl) dX7_ruled_2
set_option maxRecDepth 100000 in
set_option maxHeartbeats 4000000 in
theorem bkN_X7_ruled_74 {N : Nat} {K : KT} {m' : Mem} {rec_19 : Mem → Int32 → Int32 → Int32 → Int32 → Int32 → Int32 → Int32 → Option ((Int32 ⊕ Nat) × Mem)} {r : Int32} (hK : KOK K cX7_ruled 9 RX7 wsX7_ruled 7 0 113) (hR : KRet K (some .int) (some r) m') (hrec_19 : ∀ {m : Mem} {x1 : Int32} {x2 : Int32} {x3 : Int32} {x4 : Int32} {x5 : Int32} {x6 : Int32} {x7 : Int32}, rec_19 m x1 x2 x3 x4 x5 x6 x7 = some (.inl r, m') → AW K 0 19 [(0, q_r 0), (1, q_i x1), (2, q_i x2), (3, q_i x3), (4, q_i x4), (5, q_i x5), (6, q_i x6), (7, q_i x7)] [] m) {m : Mem} {x1 : Int32} {x2 : Int32} {x3 : Int32} {x4 : Int32} {x5 : Int32} {x6 : Int32} {x7 : Int32} (hF : B_X7_ruled_74 N rec_19 m x1 x2 x3 x4 x5 x6 x7 = some (.inl r, m')) : AW K 0 74 [(0, q_r 0), (1, q_i x1), (2, q_i x2), (3, q_i x3), (4, q_i x4), (5, q_i x5), (6, q_i x6), (7, q_i x7)] [] m := by
  unfold B_X7_ruled_74 at hF
  obtain ⟨y14, hy14, hF⟩ := bnd_some hF
  refine aw_iinc hK (cz := 1) 7 [(7, q_i y14), (0, q_r 0), (1, q_i x1), (2, q_i x2), (3, q_i x3), (4, q_i x4), (5, q_i x5), (6, q_i x6)] (by decide) rfl rfl hy14 rfl dX7_ruled_74 ?_
  refine aw_goto hK 19 rfl dX7_ruled_77 ?_
  refine aw_sub [1, 2, 3, 4, 5, 6, 7, 0] (lv' := [(0, q_r 0), (1, q_i x1), (2, q_i x2), (3, q_i x3), (4, q_i x4), (5, q_i x5), (6, q_i x6), (7, q_i y14)]) rfl ?_
  exact hrec_19 hF
set_option maxRecDepth 100000 in
set_option maxHeartbeats 4000000 in
theorem bkN_X7_ruled_52 {N : Nat} {K : KT} {m' : Mem} {rec_19 : Mem → Int32 → Int32 → Int32 → Int32 → Int32 → Int32 → Int32 → Option ((Int32 ⊕ Nat) × Mem)} {r : Int32} (hK : KOK K cX7_ruled 9 RX7 wsX7_ruled 7 0 113) (hR : KRet K (some .int) (some r) m') (hrec_19 : ∀ {m : Mem} {x1 : Int32} {x2 : Int32} {x3 : Int32} {x4 : Int32} {x5 : Int32} {x6 : Int32} {x7 : Int32}, rec_19 m x1 x2 x3 x4 x5 x6 x7 = some (.inl r, m') → AW K 0 19 [(0, q_r 0), (1, q_i x1), (2, q_i x2), (3, q_i x3), (4, q_i x4), (5, q_i x5), (6, q_i x6), (7, q_i x7)] [] m) {m : Mem} {x1 : Int32} {x2 : Int32} {x3 : Int32} {x4 : Int32} {x5 : Int32} {x6 : Int32} {x7 : Int32} {s0 : Int32} (hF : B_X7_ruled_52 N rec_19 m x1 x2 x3 x4 x5 x6 x7 s0 = some (.inl r, m')) : AW K 0 52 [(0, q_r 0), (1, q_i x1), (2, q_i x2), (3, q_i x3), (4, q_i x4), (5, q_i x5), (6, q_i x6), (7, q_i x7)] [q_i s0] m := by
  unfold B_X7_ruled_52 at hF
  refine aw_istore hK [(8, q_i s0), (0, q_r 0), (1, q_i x1), (2, q_i x2), (3, q_i x3), (4, q_i x4), (5, q_i x5), (6, q_i x6), (7, q_i x7)] (by decide) rfl dX7_ruled_52 ?_
  refine aw_iload hK 0 rfl dX7_ruled_54 ?_
  refine aw_bipush hK (8) rfl dX7_ruled_56 ?_
  refine aw_icmp_eq hK 74 rfl dX7_ruled_58 (fun hc => ?_) (fun hc => ?_)
  · have hF := if_t hF hc
    refine aw_sub [1, 2, 3, 4, 5, 6, 7, 8] (lv' := [(0, q_r 0), (1, q_i x1), (2, q_i x2), (3, q_i x3), (4, q_i x4), (5, q_i x5), (6, q_i x6), (7, q_i x7)]) rfl ?_
    exact bkN_X7_ruled_74 hK hR hrec_19 hF
  · have hF := if_f hF hc
    refine aw_iload hK 7 rfl dX7_ruled_61 ?_
    refine aw_iload hK 6 rfl dX7_ruled_63 ?_
    refine aw_icmp_ne hK 71 rfl dX7_ruled_65 (fun hc => ?_) (fun hc => ?_)
    · have hF := if_f hF hc
      obtain ⟨y13, hy13, hF⟩ := bnd_some hF
      refine aw_iinc hK (cz := 1) 7 [(6, q_i y13), (8, q_i s0), (0, q_r 0), (1, q_i x1), (2, q_i x2), (3, q_i x3), (4, q_i x4), (5, q_i x5), (7, q_i x7)] (by decide) rfl rfl hy13 rfl dX7_ruled_71 ?_
      refine aw_sub [2, 3, 4, 5, 6, 7, 0, 8] (lv' := [(0, q_r 0), (1, q_i x1), (2, q_i x2), (3, q_i x3), (4, q_i x4), (5, q_i x5), (6, q_i y13), (7, q_i x7)]) rfl ?_
      exact bkN_X7_ruled_74 hK hR hrec_19 hF
    · have hF := if_t hF hc
      refine aw_iload hK 0 rfl dX7_ruled_68 ?_
      obtain ⟨e1, rfl⟩ := so_inj hF
      cases e1
      exact aw_iret hK hR rfl dX7_ruled_70
set_option maxRecDepth 100000 in
set_option maxHeartbeats 4000000 in
theorem lpN_X7_ruled_19 {N : Nat} {K : KT} {m' : Mem} {r : Int32} (hK : KOK K cX7_ruled 9 RX7 wsX7_ruled 7 0 113) (hR : KRet K (some .int) (some r) m') : ∀ (f : Nat) {m : Mem} {x1 : Int32} {x2 : Int32} {x3 : Int32} {x4 : Int32} {x5 : Int32} {x6 : Int32} {x7 : Int32}, L_X7_ruled_19 N f m x1 x2 x3 x4 x5 x6 x7 = some (.inl r, m') → AW K 0 19 [(0, q_r 0), (1, q_i x1), (2, q_i x2), (3, q_i x3), (4, q_i x4), (5, q_i x5), (6, q_i x6), (7, q_i x7)] [] m := by
  intro f
  induction f with
  | zero => intro m x1 x2 x3 x4 x5 x6 x7 hF; cases hF
  | succ f hrec_19 =>
    intro m x1 x2 x3 x4 x5 x6 x7 hF
    have hF : S_X7_ruled_19 N (L_X7_ruled_19 N f) m x1 x2 x3 x4 x5 x6 x7 = some (.inl r, m') := hF
    unfold S_X7_ruled_19 at hF
    refine aw_iload hK 7 rfl dX7_ruled_19 ?_
    refine aw_aload_n hK 0 rfl dX7_ruled_21 ?_
    refine gf_7_1 hK rfl (List.mem_of_getElem? (i := 1) rfl) dX7_ruled_22 ?_
    refine aw_icmp_ge hK 80 rfl dX7_ruled_25 (fun hc => ?_) (fun hc => ?_)
    · have hF := if_t hF hc
      refine aw_bipush hK (8) rfl dX7_ruled_80 ?_
      obtain ⟨e1, rfl⟩ := so_inj hF
      cases e1
      exact aw_iret hK hR rfl dX7_ruled_82
    · have hF := if_f hF hc
      refine aw_aload_n hK 0 rfl dX7_ruled_28 ?_
      refine aw_iload hK 7 rfl dX7_ruled_29 ?_
      refine aw_iload_n hK 1 rfl dX7_ruled_31 ?_
      refine aw_iload_n hK 3 rfl dX7_ruled_32 ?_
      refine aw_iload hK 4 rfl dX7_ruled_33 ?_
      obtain ⟨r11, m10, h9, hF⟩ := cal_some hF
      refine aw_cv hK 7 (as := [q_i x7, q_i x1, q_i x3, q_i x4]) (tr_X7_isRewritten h9) gX7_ruled_X7_isRewritten rfl rfl rfl (by decide) (na := 4) (by decide +kernel) rfl ⟨by decide, by decide⟩ (Nat.zero_le _) (Nat.le_of_ble_eq_true rfl) dX7_ruled_35 ?_
      refine aw_if_eq hK 45 rfl dX7_ruled_38 (fun hc => ?_) (fun hc => ?_)
      · have hF := if_t hF hc
        refine aw_aload_n hK 0 rfl dX7_ruled_45 ?_
        refine gf_7_0 hK rfl (1) rfl (List.mem_of_getElem? (i := 2) rfl) dX7_ruled_46 ?_
        refine aw_iload hK 7 rfl dX7_ruled_49 ?_
        obtain ⟨g12, hF⟩ := gd_some hF
        refine aw_iald hK rfl g12 dX7_ruled_51 ?_
        refine aw_sub [0, 1, 2, 3, 4, 5, 6, 7] (lv' := [(0, q_r 0), (1, q_i x1), (2, q_i x2), (3, q_i x3), (4, q_i x4), (5, q_i x5), (6, q_i x6), (7, q_i x7)]) rfl ?_
        exact bkN_X7_ruled_52 hK hR hrec_19 hF
      · have hF := if_f hF hc
        refine aw_iload_n hK 2 rfl dX7_ruled_41 ?_
        refine aw_goto hK 52 rfl dX7_ruled_42 ?_
        refine aw_sub [0, 1, 2, 3, 4, 5, 6, 7] (lv' := [(0, q_r 0), (1, q_i x1), (2, q_i x2), (3, q_i x3), (4, q_i x4), (5, q_i x5), (6, q_i x6), (7, q_i x7)]) rfl ?_
        exact bkN_X7_ruled_52 hK hR hrec_19 hF
set_option maxRecDepth 100000 in
set_option maxHeartbeats 4000000 in
theorem trN_X7_ruled {N : Nat} {m m' : Mem} {r : Int32} {x1 : Int32} {x2 : Int32} {x3 : Int32} {x4 : Int32} {x5 : Int32} (hF : F_X7_ruled N m x1 x2 x3 x4 x5 = some (.inl r, m')) : Tr yX7_ruled wsX7_ruled 7 113 [q_r 0, q_i x1, q_i x2, q_i x3, q_i x4, q_i x5] m (some r) m' := by
  refine tr_of (bytes := cX7_ruled) (maxL := 9) (ret := (some .int)) (by decide) rfl (Nat.le_of_ble_eq_true rfl) (fun K hK hR => ?_)
  have hK : KOK K cX7_ruled 9 RX7 wsX7_ruled 7 0 113 := hK
  show AW K 0 0 [(0, q_r 0), (1, q_i x1), (2, q_i x2), (3, q_i x3), (4, q_i x4), (5, q_i x5)] [] m
  unfold F_X7_ruled at hF
  refine aw_iload hK 5 rfl dX7_ruled_0 ?_
  rcases calx_some hF with ⟨r3, m2, h1, hF⟩ | ⟨x_4, m2, h1, hF⟩
  · refine aw_cs hK (as := [q_i x5]) (trN_X7_needPlace h1) gX7_ruled_X7_needPlace rfl (na := 1) (by decide +kernel) rfl ⟨by decide, by decide⟩ (Nat.zero_le _) (Nat.le_of_ble_eq_true rfl) dX7_ruled_2 ?_
    refine aw_iload_n hK 1 rfl dX7_ruled_5 ?_
    refine aw_iload_n hK 2 rfl dX7_ruled_6 ?_
    refine aw_iload_n hK 3 rfl dX7_ruled_7 ?_
    refine aw_iload hK 4 rfl dX7_ruled_8 ?_
    rcases calx_some hF with ⟨r7, m6, h5, hF⟩ | ⟨x_8, m6, h5, hF⟩
    · refine aw_cs hK (as := [q_i x1, q_i x2, q_i x3, q_i x4]) (trN_X7_needRule h5) gX7_ruled_X7_needRule rfl (na := 4) (by decide +kernel) rfl ⟨by decide, by decide⟩ (Nat.zero_le _) (Nat.le_of_ble_eq_true rfl) dX7_ruled_10 ?_
      refine aw_iconst hK (0) rfl dX7_ruled_13 ?_
      refine aw_istore hK [(6, q_i (0 : Int32)), (0, q_r 0), (1, q_i x1), (2, q_i x2), (3, q_i x3), (4, q_i x4), (5, q_i x5)] (by decide) rfl dX7_ruled_14 ?_
      refine aw_iconst hK (0) rfl dX7_ruled_16 ?_
      refine aw_istore hK [(7, q_i (0 : Int32)), (6, q_i (0 : Int32)), (0, q_r 0), (1, q_i x1), (2, q_i x2), (3, q_i x3), (4, q_i x4), (5, q_i x5)] (by decide) rfl dX7_ruled_17 ?_
      refine aw_sub [2, 3, 4, 5, 6, 7, 1, 0] (lv' := [(0, q_r 0), (1, q_i x1), (2, q_i x2), (3, q_i x3), (4, q_i x4), (5, q_i x5), (6, q_i (0 : Int32)), (7, q_i (0 : Int32))]) rfl ?_
      exact lpN_X7_ruled_19 hK hR _ hF
    · cases hF
  · cases hF
