def B_X8_isBehind_134 (N : Nat) (m : Mem) (s0 : Int32) : Option (Int32 × Mem) :=
  gd (isb s0) <|
  some (s0, m)
set_option maxRecDepth 100000 in
set_option maxHeartbeats 4000000 in
theorem bk_X8_isBehind_134 {N : Nat} {K : KT} {m' : Mem} {r : Int32} (hK : KOK K cX8_isBehind 3 RX8 wsX8_isBehind 0 0 0) (hR : KRet K (some .boolean) (some r) m') {m : Mem} {s0 : Int32} (hF : B_X8_isBehind_134 N m s0 = some (r, m')) : AW K 0 134 [] [q_i s0] m := by
  unfold B_X8_isBehind_134 at hF
  obtain ⟨g15, hF⟩ := gd_some hF
  obtain ⟨rfl, rfl⟩ := so_inj hF
  exact aw_iret hK hR (isb_narrow g15) dX8_isBehind_134
def F_X8_isBehind (N : Nat) (m : Mem) (x1 : Int32) (x2 : Int32) : Option (Int32 × Mem) :=
  gd (inb x1 (alen 87)) <|
  gd (inb x2 (alen 87)) <|
  if (m 87 (ix x1)) = (m 87 (ix x2)) then (
    gd (inb x1 (alen 88)) <|
    gd (inb x2 (alen 88)) <|
    if (m 88 (ix x1)) = (m 88 (ix x2)) then (
      gd (inb x1 (alen 89)) <|
      gd (inb x2 (alen 89)) <|
      if (m 89 (ix x1)) = (m 89 (ix x2)) then (
        gd (inb x1 (alen 91)) <|
        gd (inb x2 (alen 91)) <|
        if (m 91 (ix x1)) ≤ (m 91 (ix x2)) then (
          B_X8_isBehind_134 N m (0 : Int32)
        ) else (
          B_X8_isBehind_134 N m (1 : Int32)
        )
      ) else (
        gd (inb x1 (alen 89)) <|
        gd (inb x2 (alen 89)) <|
        if (m 89 (ix x1)) ≤ (m 89 (ix x2)) then (
          B_X8_isBehind_134 N m (0 : Int32)
        ) else (
          B_X8_isBehind_134 N m (1 : Int32)
        )
      )
    ) else (
      gd (inb x1 (alen 88)) <|
      gd (inb x2 (alen 88)) <|
      if (m 88 (ix x1)) ≤ (m 88 (ix x2)) then (
        B_X8_isBehind_134 N m (0 : Int32)
      ) else (
        B_X8_isBehind_134 N m (1 : Int32)
      )
    )
  ) else (
    gd (inb x1 (alen 87)) <|
    gd (inb x2 (alen 87)) <|
    if (m 87 (ix x1)) ≤ (m 87 (ix x2)) then (
      B_X8_isBehind_134 N m (0 : Int32)
    ) else (
      B_X8_isBehind_134 N m (1 : Int32)
    )
  )
set_option maxRecDepth 100000 in
set_option maxHeartbeats 4000000 in
theorem tr_X8_isBehind {N : Nat} {m m' : Mem} {r : Int32} {x1 : Int32} {x2 : Int32} (hF : F_X8_isBehind N m x1 x2 = some (r, m')) : Tr yX8_isBehind wsX8_isBehind 0 0 [q_r 70, q_i x1, q_i x2] m (some r) m' := by
  refine tr_of (bytes := cX8_isBehind) (maxL := 3) (ret := (some .boolean)) (by decide) rfl (Nat.le_of_ble_eq_true rfl) (fun K hK hR => ?_)
  have hK : KOK K cX8_isBehind 3 RX8 wsX8_isBehind 0 0 0 := hK
  show AW K 0 0 [(0, q_r 70), (1, q_i x1), (2, q_i x2)] [] m
  unfold F_X8_isBehind at hF
  refine aw_aload_n hK 0 rfl dX8_isBehind_0 ?_
  refine gf_8_21 hK rfl (87) rfl (List.mem_of_getElem? (i := 1) rfl) dX8_isBehind_1 ?_
  refine aw_iload_n hK 1 rfl dX8_isBehind_4 ?_
  obtain ⟨g1, hF⟩ := gd_some hF
  refine aw_iald hK rfl g1 dX8_isBehind_5 ?_
  refine aw_aload_n hK 0 rfl dX8_isBehind_6 ?_
  refine gf_8_21 hK rfl (87) rfl (List.mem_of_getElem? (i := 1) rfl) dX8_isBehind_7 ?_
  refine aw_iload_n hK 2 rfl dX8_isBehind_10 ?_
  obtain ⟨g2, hF⟩ := gd_some hF
  refine aw_iald hK rfl g2 dX8_isBehind_11 ?_
  refine aw_icmp_eq hK 38 rfl dX8_isBehind_12 (fun hc => ?_) (fun hc => ?_)
  · have hF := if_t hF hc
    refine aw_aload_n hK 0 rfl dX8_isBehind_38 ?_
    refine gf_8_22 hK rfl (88) rfl (List.mem_of_getElem? (i := 2) rfl) dX8_isBehind_39 ?_
    refine aw_iload_n hK 1 rfl dX8_isBehind_42 ?_
    obtain ⟨g3, hF⟩ := gd_some hF
    refine aw_iald hK rfl g3 dX8_isBehind_43 ?_
    refine aw_aload_n hK 0 rfl dX8_isBehind_44 ?_
    refine gf_8_22 hK rfl (88) rfl (List.mem_of_getElem? (i := 2) rfl) dX8_isBehind_45 ?_
    refine aw_iload_n hK 2 rfl dX8_isBehind_48 ?_
    obtain ⟨g4, hF⟩ := gd_some hF
    refine aw_iald hK rfl g4 dX8_isBehind_49 ?_
    refine aw_icmp_eq hK 76 rfl dX8_isBehind_50 (fun hc => ?_) (fun hc => ?_)
    · have hF := if_t hF hc
      refine aw_aload_n hK 0 rfl dX8_isBehind_76 ?_
      refine gf_8_23 hK rfl (89) rfl (List.mem_of_getElem? (i := 3) rfl) dX8_isBehind_77 ?_
      refine aw_iload_n hK 1 rfl dX8_isBehind_80 ?_
      obtain ⟨g5, hF⟩ := gd_some hF
      refine aw_iald hK rfl g5 dX8_isBehind_81 ?_
      refine aw_aload_n hK 0 rfl dX8_isBehind_82 ?_
      refine gf_8_23 hK rfl (89) rfl (List.mem_of_getElem? (i := 3) rfl) dX8_isBehind_83 ?_
      refine aw_iload_n hK 2 rfl dX8_isBehind_86 ?_
      obtain ⟨g6, hF⟩ := gd_some hF
      refine aw_iald hK rfl g6 dX8_isBehind_87 ?_
      refine aw_icmp_eq hK 114 rfl dX8_isBehind_88 (fun hc => ?_) (fun hc => ?_)
      · have hF := if_t hF hc
        refine aw_aload_n hK 0 rfl dX8_isBehind_114 ?_
        refine gf_8_25 hK rfl (91) rfl (List.mem_of_getElem? (i := 4) rfl) dX8_isBehind_115 ?_
        refine aw_iload_n hK 1 rfl dX8_isBehind_118 ?_
        obtain ⟨g7, hF⟩ := gd_some hF
        refine aw_iald hK rfl g7 dX8_isBehind_119 ?_
        refine aw_aload_n hK 0 rfl dX8_isBehind_120 ?_
        refine gf_8_25 hK rfl (91) rfl (List.mem_of_getElem? (i := 4) rfl) dX8_isBehind_121 ?_
        refine aw_iload_n hK 2 rfl dX8_isBehind_124 ?_
        obtain ⟨g8, hF⟩ := gd_some hF
        refine aw_iald hK rfl g8 dX8_isBehind_125 ?_
        refine aw_icmp_le hK 133 rfl dX8_isBehind_126 (fun hc => ?_) (fun hc => ?_)
        · have hF := if_t hF hc
          refine aw_iconst hK (0) rfl dX8_isBehind_133 ?_
          refine aw_sub [] (lv' := []) rfl ?_
          exact bk_X8_isBehind_134 hK hR hF
        · have hF := if_f hF hc
          refine aw_iconst hK (1) rfl dX8_isBehind_129 ?_
          refine aw_goto hK 134 rfl dX8_isBehind_130 ?_
          refine aw_sub [] (lv' := []) rfl ?_
          exact bk_X8_isBehind_134 hK hR hF
      · have hF := if_f hF hc
        refine aw_aload_n hK 0 rfl dX8_isBehind_91 ?_
        refine gf_8_23 hK rfl (89) rfl (List.mem_of_getElem? (i := 3) rfl) dX8_isBehind_92 ?_
        refine aw_iload_n hK 1 rfl dX8_isBehind_95 ?_
        obtain ⟨g9, hF⟩ := gd_some hF
        refine aw_iald hK rfl g9 dX8_isBehind_96 ?_
        refine aw_aload_n hK 0 rfl dX8_isBehind_97 ?_
        refine gf_8_23 hK rfl (89) rfl (List.mem_of_getElem? (i := 3) rfl) dX8_isBehind_98 ?_
        refine aw_iload_n hK 2 rfl dX8_isBehind_101 ?_
        obtain ⟨g10, hF⟩ := gd_some hF
        refine aw_iald hK rfl g10 dX8_isBehind_102 ?_
        refine aw_icmp_le hK 110 rfl dX8_isBehind_103 (fun hc => ?_) (fun hc => ?_)
        · have hF := if_t hF hc
          refine aw_iconst hK (0) rfl dX8_isBehind_110 ?_
          refine aw_goto hK 134 rfl dX8_isBehind_111 ?_
          refine aw_sub [] (lv' := []) rfl ?_
          exact bk_X8_isBehind_134 hK hR hF
        · have hF := if_f hF hc
          refine aw_iconst hK (1) rfl dX8_isBehind_106 ?_
          refine aw_goto hK 134 rfl dX8_isBehind_107 ?_
          refine aw_sub [] (lv' := []) rfl ?_
          exact bk_X8_isBehind_134 hK hR hF
    · have hF := if_f hF hc
      refine aw_aload_n hK 0 rfl dX8_isBehind_53 ?_
      refine gf_8_22 hK rfl (88) rfl (List.mem_of_getElem? (i := 2) rfl) dX8_isBehind_54 ?_
      refine aw_iload_n hK 1 rfl dX8_isBehind_57 ?_
      obtain ⟨g11, hF⟩ := gd_some hF
      refine aw_iald hK rfl g11 dX8_isBehind_58 ?_
      refine aw_aload_n hK 0 rfl dX8_isBehind_59 ?_
      refine gf_8_22 hK rfl (88) rfl (List.mem_of_getElem? (i := 2) rfl) dX8_isBehind_60 ?_
      refine aw_iload_n hK 2 rfl dX8_isBehind_63 ?_
      obtain ⟨g12, hF⟩ := gd_some hF
      refine aw_iald hK rfl g12 dX8_isBehind_64 ?_
      refine aw_icmp_le hK 72 rfl dX8_isBehind_65 (fun hc => ?_) (fun hc => ?_)
      · have hF := if_t hF hc
        refine aw_iconst hK (0) rfl dX8_isBehind_72 ?_
        refine aw_goto hK 134 rfl dX8_isBehind_73 ?_
        refine aw_sub [] (lv' := []) rfl ?_
        exact bk_X8_isBehind_134 hK hR hF
      · have hF := if_f hF hc
        refine aw_iconst hK (1) rfl dX8_isBehind_68 ?_
        refine aw_goto hK 134 rfl dX8_isBehind_69 ?_
        refine aw_sub [] (lv' := []) rfl ?_
        exact bk_X8_isBehind_134 hK hR hF
  · have hF := if_f hF hc
    refine aw_aload_n hK 0 rfl dX8_isBehind_15 ?_
    refine gf_8_21 hK rfl (87) rfl (List.mem_of_getElem? (i := 1) rfl) dX8_isBehind_16 ?_
    refine aw_iload_n hK 1 rfl dX8_isBehind_19 ?_
    obtain ⟨g13, hF⟩ := gd_some hF
    refine aw_iald hK rfl g13 dX8_isBehind_20 ?_
    refine aw_aload_n hK 0 rfl dX8_isBehind_21 ?_
    refine gf_8_21 hK rfl (87) rfl (List.mem_of_getElem? (i := 1) rfl) dX8_isBehind_22 ?_
    refine aw_iload_n hK 2 rfl dX8_isBehind_25 ?_
    obtain ⟨g14, hF⟩ := gd_some hF
    refine aw_iald hK rfl g14 dX8_isBehind_26 ?_
    refine aw_icmp_le hK 34 rfl dX8_isBehind_27 (fun hc => ?_) (fun hc => ?_)
    · have hF := if_t hF hc
      refine aw_iconst hK (0) rfl dX8_isBehind_34 ?_
      refine aw_goto hK 134 rfl dX8_isBehind_35 ?_
      refine aw_sub [] (lv' := []) rfl ?_
      exact bk_X8_isBehind_134 hK hR hF
    · have hF := if_f hF hc
      refine aw_iconst hK (1) rfl dX8_isBehind_30 ?_
      refine aw_goto hK 134 rfl dX8_isBehind_31 ?_
      refine aw_sub [] (lv' := []) rfl ?_
      exact bk_X8_isBehind_134 hK hR hF
def F_X8_exchanges (N : Nat) (m : Mem) (x1 : Int32) (x2 : Int32) : Option Mem :=
  gd (inb x1 (alen 87)) <|
  bnd (m 87 (ix x1)) fun y2 =>
  gd (inb x1 (alen 88)) <|
  bnd (m 88 (ix x1)) fun y4 =>
  gd (inb x1 (alen 89)) <|
  bnd (m 89 (ix x1)) fun y6 =>
  gd (inb x1 (alen 90)) <|
  bnd (m 90 (ix x1)) fun y8 =>
  gd (inb x1 (alen 91)) <|
  bnd (m 91 (ix x1)) fun y10 =>
  gd (inb x2 (alen 87)) <|
  gd (inb x1 (alen 87)) <|
  bnd (mup m 87 (ix x1) (m 87 (ix x2))) fun m13 =>
  gd (inb x2 (alen 88)) <|
  gd (inb x1 (alen 88)) <|
  bnd (mup m13 88 (ix x1) (m13 88 (ix x2))) fun m16 =>
  gd (inb x2 (alen 89)) <|
  gd (inb x1 (alen 89)) <|
  bnd (mup m16 89 (ix x1) (m16 89 (ix x2))) fun m19 =>
  gd (inb x2 (alen 90)) <|
  gd (inb x1 (alen 90)) <|
  bnd (mup m19 90 (ix x1) (m19 90 (ix x2))) fun m22 =>
  gd (inb x2 (alen 91)) <|
  gd (inb x1 (alen 91)) <|
  bnd (mup m22 91 (ix x1) (m22 91 (ix x2))) fun m25 =>
  gd (inb x2 (alen 87)) <|
  bnd (mup m25 87 (ix x2) y2) fun m27 =>
  gd (inb x2 (alen 88)) <|
  bnd (mup m27 88 (ix x2) y4) fun m29 =>
  gd (inb x2 (alen 89)) <|
  bnd (mup m29 89 (ix x2) y6) fun m31 =>
  gd (inb x2 (alen 90)) <|
  bnd (mup m31 90 (ix x2) y8) fun m33 =>
  gd (inb x2 (alen 91)) <|
  bnd (mup m33 91 (ix x2) y10) fun m35 =>
  some m35
set_option maxRecDepth 100000 in
set_option maxHeartbeats 4000000 in
theorem tr_X8_exchanges {N : Nat} {m m' : Mem} {x1 : Int32} {x2 : Int32} (hF : F_X8_exchanges N m x1 x2 = some m') : Tr yX8_exchanges wsX8_exchanges 0 0 [q_r 70, q_i x1, q_i x2] m none m' := by
  refine tr_of (bytes := cX8_exchanges) (maxL := 8) (ret := none) (by decide) rfl (Nat.le_of_ble_eq_true rfl) (fun K hK hR => ?_)
  have hK : KOK K cX8_exchanges 8 RX8 wsX8_exchanges 0 0 0 := hK
  show AW K 0 0 [(0, q_r 70), (1, q_i x1), (2, q_i x2)] [] m
  unfold F_X8_exchanges at hF
  refine aw_aload_n hK 0 rfl dX8_exchanges_0 ?_
  refine gf_8_21 hK rfl (87) rfl (List.mem_of_getElem? (i := 1) rfl) dX8_exchanges_1 ?_
  refine aw_iload_n hK 1 rfl dX8_exchanges_4 ?_
  obtain ⟨g1, hF⟩ := gd_some hF
  refine aw_iald hK rfl g1 dX8_exchanges_5 ?_
  obtain ⟨y2, hy2, hF⟩ := bnd_some hF
  refine aw_nm hy2 ?_
  refine aw_istore_n hK [(3, q_i y2), (0, q_r 70), (1, q_i x1), (2, q_i x2)] (by decide) rfl dX8_exchanges_6 ?_
  refine aw_aload_n hK 1 rfl dX8_exchanges_7 ?_
  refine gf_8_22 hK rfl (88) rfl (List.mem_of_getElem? (i := 2) rfl) dX8_exchanges_8 ?_
  refine aw_iload_n hK 2 rfl dX8_exchanges_11 ?_
  obtain ⟨g3, hF⟩ := gd_some hF
  refine aw_iald hK rfl g3 dX8_exchanges_12 ?_
  obtain ⟨y4, hy4, hF⟩ := bnd_some hF
  refine aw_nm hy4 ?_
  refine aw_istore hK [(4, q_i y4), (3, q_i y2), (0, q_r 70), (1, q_i x1), (2, q_i x2)] (by decide) rfl dX8_exchanges_13 ?_
  refine aw_aload_n hK 2 rfl dX8_exchanges_15 ?_
  refine gf_8_23 hK rfl (89) rfl (List.mem_of_getElem? (i := 3) rfl) dX8_exchanges_16 ?_
  refine aw_iload_n hK 3 rfl dX8_exchanges_19 ?_
  obtain ⟨g5, hF⟩ := gd_some hF
  refine aw_iald hK rfl g5 dX8_exchanges_20 ?_
  obtain ⟨y6, hy6, hF⟩ := bnd_some hF
  refine aw_nm hy6 ?_
  refine aw_istore hK [(5, q_i y6), (4, q_i y4), (3, q_i y2), (0, q_r 70), (1, q_i x1), (2, q_i x2)] (by decide) rfl dX8_exchanges_21 ?_
  refine aw_aload_n hK 3 rfl dX8_exchanges_23 ?_
  refine gf_8_24 hK rfl (90) rfl (List.mem_of_getElem? (i := 4) rfl) dX8_exchanges_24 ?_
  refine aw_iload_n hK 4 rfl dX8_exchanges_27 ?_
  obtain ⟨g7, hF⟩ := gd_some hF
  refine aw_iald hK rfl g7 dX8_exchanges_28 ?_
  obtain ⟨y8, hy8, hF⟩ := bnd_some hF
  refine aw_nm hy8 ?_
  refine aw_istore hK [(6, q_i y8), (5, q_i y6), (4, q_i y4), (3, q_i y2), (0, q_r 70), (1, q_i x1), (2, q_i x2)] (by decide) rfl dX8_exchanges_29 ?_
  refine aw_aload_n hK 4 rfl dX8_exchanges_31 ?_
  refine gf_8_25 hK rfl (91) rfl (List.mem_of_getElem? (i := 5) rfl) dX8_exchanges_32 ?_
  refine aw_iload_n hK 5 rfl dX8_exchanges_35 ?_
  obtain ⟨g9, hF⟩ := gd_some hF
  refine aw_iald hK rfl g9 dX8_exchanges_36 ?_
  obtain ⟨y10, hy10, hF⟩ := bnd_some hF
  refine aw_nm hy10 ?_
  refine aw_istore hK [(7, q_i y10), (6, q_i y8), (5, q_i y6), (4, q_i y4), (3, q_i y2), (0, q_r 70), (1, q_i x1), (2, q_i x2)] (by decide) rfl dX8_exchanges_37 ?_
  refine aw_aload_n hK 5 rfl dX8_exchanges_39 ?_
  refine gf_8_21 hK rfl (87) rfl (List.mem_of_getElem? (i := 1) rfl) dX8_exchanges_40 ?_
  refine aw_iload_n hK 6 rfl dX8_exchanges_43 ?_
  refine aw_aload_n hK 5 rfl dX8_exchanges_44 ?_
  refine gf_8_21 hK rfl (87) rfl (List.mem_of_getElem? (i := 1) rfl) dX8_exchanges_45 ?_
  refine aw_iload_n hK 7 rfl dX8_exchanges_48 ?_
  obtain ⟨g11, hF⟩ := gd_some hF
  refine aw_iald hK rfl g11 dX8_exchanges_49 ?_
  obtain ⟨g12, hF⟩ := gd_some hF
  refine aw_iast hK rfl g12 dX8_exchanges_50 ?_
  obtain ⟨m13, hm13, hF⟩ := bnd_some hF
  refine aw_mm hm13 ?_
  refine aw_aload_n hK 5 rfl dX8_exchanges_51 ?_
  refine gf_8_22 hK rfl (88) rfl (List.mem_of_getElem? (i := 2) rfl) dX8_exchanges_52 ?_
  refine aw_iload_n hK 6 rfl dX8_exchanges_55 ?_
  refine aw_aload_n hK 5 rfl dX8_exchanges_56 ?_
  refine gf_8_22 hK rfl (88) rfl (List.mem_of_getElem? (i := 2) rfl) dX8_exchanges_57 ?_
  refine aw_iload_n hK 7 rfl dX8_exchanges_60 ?_
  obtain ⟨g14, hF⟩ := gd_some hF
  refine aw_iald hK rfl g14 dX8_exchanges_61 ?_
  obtain ⟨g15, hF⟩ := gd_some hF
  refine aw_iast hK rfl g15 dX8_exchanges_62 ?_
  obtain ⟨m16, hm16, hF⟩ := bnd_some hF
  refine aw_mm hm16 ?_
  refine aw_aload_n hK 5 rfl dX8_exchanges_63 ?_
  refine gf_8_23 hK rfl (89) rfl (List.mem_of_getElem? (i := 3) rfl) dX8_exchanges_64 ?_
  refine aw_iload_n hK 6 rfl dX8_exchanges_67 ?_
  refine aw_aload_n hK 5 rfl dX8_exchanges_68 ?_
  refine gf_8_23 hK rfl (89) rfl (List.mem_of_getElem? (i := 3) rfl) dX8_exchanges_69 ?_
  refine aw_iload_n hK 7 rfl dX8_exchanges_72 ?_
  obtain ⟨g17, hF⟩ := gd_some hF
  refine aw_iald hK rfl g17 dX8_exchanges_73 ?_
  obtain ⟨g18, hF⟩ := gd_some hF
  refine aw_iast hK rfl g18 dX8_exchanges_74 ?_
  obtain ⟨m19, hm19, hF⟩ := bnd_some hF
  refine aw_mm hm19 ?_
  refine aw_aload_n hK 5 rfl dX8_exchanges_75 ?_
  refine gf_8_24 hK rfl (90) rfl (List.mem_of_getElem? (i := 4) rfl) dX8_exchanges_76 ?_
  refine aw_iload_n hK 6 rfl dX8_exchanges_79 ?_
  refine aw_aload_n hK 5 rfl dX8_exchanges_80 ?_
  refine gf_8_24 hK rfl (90) rfl (List.mem_of_getElem? (i := 4) rfl) dX8_exchanges_81 ?_
  refine aw_iload_n hK 7 rfl dX8_exchanges_84 ?_
  obtain ⟨g20, hF⟩ := gd_some hF
  refine aw_iald hK rfl g20 dX8_exchanges_85 ?_
  obtain ⟨g21, hF⟩ := gd_some hF
  refine aw_iast hK rfl g21 dX8_exchanges_86 ?_
  obtain ⟨m22, hm22, hF⟩ := bnd_some hF
  refine aw_mm hm22 ?_
  refine aw_aload_n hK 5 rfl dX8_exchanges_87 ?_
  refine gf_8_25 hK rfl (91) rfl (List.mem_of_getElem? (i := 5) rfl) dX8_exchanges_88 ?_
  refine aw_iload_n hK 6 rfl dX8_exchanges_91 ?_
  refine aw_aload_n hK 5 rfl dX8_exchanges_92 ?_
  refine gf_8_25 hK rfl (91) rfl (List.mem_of_getElem? (i := 5) rfl) dX8_exchanges_93 ?_
  refine aw_iload_n hK 7 rfl dX8_exchanges_96 ?_
  obtain ⟨g23, hF⟩ := gd_some hF
  refine aw_iald hK rfl g23 dX8_exchanges_97 ?_
  obtain ⟨g24, hF⟩ := gd_some hF
  refine aw_iast hK rfl g24 dX8_exchanges_98 ?_
  obtain ⟨m25, hm25, hF⟩ := bnd_some hF
  refine aw_mm hm25 ?_
  refine aw_aload_n hK 5 rfl dX8_exchanges_99 ?_
  refine gf_8_21 hK rfl (87) rfl (List.mem_of_getElem? (i := 1) rfl) dX8_exchanges_100 ?_
  refine aw_iload_n hK 7 rfl dX8_exchanges_103 ?_
  refine aw_iload_n hK 4 rfl dX8_exchanges_104 ?_
  obtain ⟨g26, hF⟩ := gd_some hF
  refine aw_iast hK rfl g26 dX8_exchanges_105 ?_
  obtain ⟨m27, hm27, hF⟩ := bnd_some hF
  refine aw_mm hm27 ?_
  refine aw_aload_n hK 5 rfl dX8_exchanges_106 ?_
  refine gf_8_22 hK rfl (88) rfl (List.mem_of_getElem? (i := 2) rfl) dX8_exchanges_107 ?_
  refine aw_iload_n hK 7 rfl dX8_exchanges_110 ?_
  refine aw_iload hK 3 rfl dX8_exchanges_111 ?_
  obtain ⟨g28, hF⟩ := gd_some hF
  refine aw_iast hK rfl g28 dX8_exchanges_113 ?_
  obtain ⟨m29, hm29, hF⟩ := bnd_some hF
  refine aw_mm hm29 ?_
  refine aw_aload_n hK 5 rfl dX8_exchanges_114 ?_
  refine gf_8_23 hK rfl (89) rfl (List.mem_of_getElem? (i := 3) rfl) dX8_exchanges_115 ?_
  refine aw_iload_n hK 7 rfl dX8_exchanges_118 ?_
  refine aw_iload hK 2 rfl dX8_exchanges_119 ?_
  obtain ⟨g30, hF⟩ := gd_some hF
  refine aw_iast hK rfl g30 dX8_exchanges_121 ?_
  obtain ⟨m31, hm31, hF⟩ := bnd_some hF
  refine aw_mm hm31 ?_
  refine aw_aload_n hK 5 rfl dX8_exchanges_122 ?_
  refine gf_8_24 hK rfl (90) rfl (List.mem_of_getElem? (i := 4) rfl) dX8_exchanges_123 ?_
  refine aw_iload_n hK 7 rfl dX8_exchanges_126 ?_
  refine aw_iload hK 1 rfl dX8_exchanges_127 ?_
  obtain ⟨g32, hF⟩ := gd_some hF
  refine aw_iast hK rfl g32 dX8_exchanges_129 ?_
  obtain ⟨m33, hm33, hF⟩ := bnd_some hF
  refine aw_mm hm33 ?_
  refine aw_aload_n hK 5 rfl dX8_exchanges_130 ?_
  refine gf_8_25 hK rfl (91) rfl (List.mem_of_getElem? (i := 5) rfl) dX8_exchanges_131 ?_
  refine aw_iload_n hK 7 rfl dX8_exchanges_134 ?_
  refine aw_iload hK 0 rfl dX8_exchanges_135 ?_
  obtain ⟨g34, hF⟩ := gd_some hF
  refine aw_iast hK rfl g34 dX8_exchanges_137 ?_
  obtain ⟨m35, hm35, hF⟩ := bnd_some hF
  refine aw_mm hm35 ?_
  obtain rfl := Option.some.inj hF
  exact aw_vret hK hR dX8_exchanges_138
def S_X8_keeps_84 (N : Nat) (rec_84 : Mem → Int32 → Int32 → Option (Int32 × Mem)) (m : Mem) (x1 : Int32) (x2 : Int32) : Option (Int32 × Mem) :=
  if (m 70 26) ≤ x2 then (
    bnd (mup m 70 11 ((m 70 11) + (1 : Int32))) fun m15 =>
    some (x1, m15)
  ) else (
    gd (inb x2 (alen 87)) <|
    gd (inb (((160 : Int32) * x1) + x2) (alen 75)) <|
    bnd (mup m 75 (ix (((160 : Int32) * x1) + x2)) (m 87 (ix x2))) fun m18 =>
    gd (inb x2 (alen 88)) <|
    gd (inb (((160 : Int32) * x1) + x2) (alen 76)) <|
    bnd (mup m18 76 (ix (((160 : Int32) * x1) + x2)) (m18 88 (ix x2))) fun m21 =>
    gd (inb x2 (alen 89)) <|
    gd (inb (((160 : Int32) * x1) + x2) (alen 77)) <|
    bnd (mup m21 77 (ix (((160 : Int32) * x1) + x2)) (m21 89 (ix x2))) fun m24 =>
    gd (inb x2 (alen 90)) <|
    gd (inb (((160 : Int32) * x1) + x2) (alen 78)) <|
    bnd (mup m24 78 (ix (((160 : Int32) * x1) + x2)) (m24 90 (ix x2))) fun m27 =>
    gd (inb x2 (alen 91)) <|
    gd (inb (((160 : Int32) * x1) + x2) (alen 79)) <|
    bnd (mup m27 79 (ix (((160 : Int32) * x1) + x2)) (m27 91 (ix x2))) fun m30 =>
    bnd (x2 + (1 : Int32)) fun y31 =>
    rec_84 m30 x1 y31
  )
def L_X8_keeps_84 (N : Nat) : Nat → Mem → Int32 → Int32 → Option (Int32 × Mem)
  | 0 => fun _ _ _ => none
  | f + 1 => S_X8_keeps_84 N (L_X8_keeps_84 N f)
set_option maxRecDepth 100000 in
set_option maxHeartbeats 4000000 in
theorem lp_X8_keeps_84 {N : Nat} {K : KT} {m' : Mem} {r : Int32} (hK : KOK K cX8_keeps 3 RX8 wsX8_keeps 1 0 27) (hR : KRet K (some .int) (some r) m') : ∀ (f : Nat) {m : Mem} {x1 : Int32} {x2 : Int32}, L_X8_keeps_84 N f m x1 x2 = some (r, m') → AW K 0 84 [(0, q_r 70), (1, q_i x1), (2, q_i x2)] [] m := by
  intro f
  induction f with
  | zero => intro m x1 x2 hF; cases hF
  | succ f hrec_84 =>
    intro m x1 x2 hF
    have hF : S_X8_keeps_84 N (L_X8_keeps_84 N f) m x1 x2 = some (r, m') := hF
    unfold S_X8_keeps_84 at hF
    refine aw_iload_n hK 2 rfl dX8_keeps_84 ?_
    refine aw_aload_n hK 0 rfl dX8_keeps_85 ?_
    refine gf_8_26 hK rfl (List.mem_of_getElem? (i := 1) rfl) dX8_keeps_86 ?_
    refine aw_icmp_ge hK 188 rfl dX8_keeps_89 (fun hc => ?_) (fun hc => ?_)
    · have hF := if_t hF hc
      refine aw_aload_n hK 0 rfl dX8_keeps_188 ?_
      refine aw_dup hK rfl dX8_keeps_189 ?_
      refine gf_8_11 hK rfl (List.mem_of_getElem? (i := 2) rfl) dX8_keeps_190 ?_
      refine aw_iconst hK (1) rfl dX8_keeps_193 ?_
      refine aw_iadd hK dX8_keeps_194 ?_
      refine pf_8_11 hK rfl (List.mem_of_getElem? (i := 2) rfl) dX8_keeps_195 ?_
      obtain ⟨m15, hm15, hF⟩ := bnd_some hF
      refine aw_mm hm15 ?_
      refine aw_iload_n hK 1 rfl dX8_keeps_198 ?_
      obtain ⟨rfl, rfl⟩ := so_inj hF
      exact aw_iret hK hR rfl dX8_keeps_199
    · have hF := if_f hF hc
      refine aw_aload_n hK 0 rfl dX8_keeps_92 ?_
      refine gf_8_6 hK rfl (75) rfl (List.mem_of_getElem? (i := 8) rfl) dX8_keeps_93 ?_
      refine aw_sipush hK (160) rfl dX8_keeps_96 ?_
      refine aw_iload_n hK 1 rfl dX8_keeps_99 ?_
      refine aw_imul hK dX8_keeps_100 ?_
      refine aw_iload_n hK 2 rfl dX8_keeps_101 ?_
      refine aw_iadd hK dX8_keeps_102 ?_
      refine aw_aload_n hK 0 rfl dX8_keeps_103 ?_
      refine gf_8_21 hK rfl (87) rfl (List.mem_of_getElem? (i := 9) rfl) dX8_keeps_104 ?_
      refine aw_iload_n hK 2 rfl dX8_keeps_107 ?_
      obtain ⟨g16, hF⟩ := gd_some hF
      refine aw_iald hK rfl g16 dX8_keeps_108 ?_
      obtain ⟨g17, hF⟩ := gd_some hF
      refine aw_iast hK rfl g17 dX8_keeps_109 ?_
      obtain ⟨m18, hm18, hF⟩ := bnd_some hF
      refine aw_mm hm18 ?_
      refine aw_aload_n hK 0 rfl dX8_keeps_110 ?_
      refine gf_8_7 hK rfl (76) rfl (List.mem_of_getElem? (i := 10) rfl) dX8_keeps_111 ?_
      refine aw_sipush hK (160) rfl dX8_keeps_114 ?_
      refine aw_iload_n hK 1 rfl dX8_keeps_117 ?_
      refine aw_imul hK dX8_keeps_118 ?_
      refine aw_iload_n hK 2 rfl dX8_keeps_119 ?_
      refine aw_iadd hK dX8_keeps_120 ?_
      refine aw_aload_n hK 0 rfl dX8_keeps_121 ?_
      refine gf_8_22 hK rfl (88) rfl (List.mem_of_getElem? (i := 11) rfl) dX8_keeps_122 ?_
      refine aw_iload_n hK 2 rfl dX8_keeps_125 ?_
      obtain ⟨g19, hF⟩ := gd_some hF
      refine aw_iald hK rfl g19 dX8_keeps_126 ?_
      obtain ⟨g20, hF⟩ := gd_some hF
      refine aw_iast hK rfl g20 dX8_keeps_127 ?_
      obtain ⟨m21, hm21, hF⟩ := bnd_some hF
      refine aw_mm hm21 ?_
      refine aw_aload_n hK 0 rfl dX8_keeps_128 ?_
      refine gf_8_8 hK rfl (77) rfl (List.mem_of_getElem? (i := 12) rfl) dX8_keeps_129 ?_
      refine aw_sipush hK (160) rfl dX8_keeps_132 ?_
      refine aw_iload_n hK 1 rfl dX8_keeps_135 ?_
      refine aw_imul hK dX8_keeps_136 ?_
      refine aw_iload_n hK 2 rfl dX8_keeps_137 ?_
      refine aw_iadd hK dX8_keeps_138 ?_
      refine aw_aload_n hK 0 rfl dX8_keeps_139 ?_
      refine gf_8_23 hK rfl (89) rfl (List.mem_of_getElem? (i := 13) rfl) dX8_keeps_140 ?_
      refine aw_iload_n hK 2 rfl dX8_keeps_143 ?_
      obtain ⟨g22, hF⟩ := gd_some hF
      refine aw_iald hK rfl g22 dX8_keeps_144 ?_
      obtain ⟨g23, hF⟩ := gd_some hF
      refine aw_iast hK rfl g23 dX8_keeps_145 ?_
      obtain ⟨m24, hm24, hF⟩ := bnd_some hF
      refine aw_mm hm24 ?_
      refine aw_aload_n hK 0 rfl dX8_keeps_146 ?_
      refine gf_8_9 hK rfl (78) rfl (List.mem_of_getElem? (i := 14) rfl) dX8_keeps_147 ?_
      refine aw_sipush hK (160) rfl dX8_keeps_150 ?_
      refine aw_iload_n hK 1 rfl dX8_keeps_153 ?_
      refine aw_imul hK dX8_keeps_154 ?_
      refine aw_iload_n hK 2 rfl dX8_keeps_155 ?_
      refine aw_iadd hK dX8_keeps_156 ?_
      refine aw_aload_n hK 0 rfl dX8_keeps_157 ?_
      refine gf_8_24 hK rfl (90) rfl (List.mem_of_getElem? (i := 15) rfl) dX8_keeps_158 ?_
      refine aw_iload_n hK 2 rfl dX8_keeps_161 ?_
      obtain ⟨g25, hF⟩ := gd_some hF
      refine aw_iald hK rfl g25 dX8_keeps_162 ?_
      obtain ⟨g26, hF⟩ := gd_some hF
      refine aw_iast hK rfl g26 dX8_keeps_163 ?_
      obtain ⟨m27, hm27, hF⟩ := bnd_some hF
      refine aw_mm hm27 ?_
      refine aw_aload_n hK 0 rfl dX8_keeps_164 ?_
      refine gf_8_10 hK rfl (79) rfl (List.mem_of_getElem? (i := 16) rfl) dX8_keeps_165 ?_
      refine aw_sipush hK (160) rfl dX8_keeps_168 ?_
      refine aw_iload_n hK 1 rfl dX8_keeps_171 ?_
      refine aw_imul hK dX8_keeps_172 ?_
      refine aw_iload_n hK 2 rfl dX8_keeps_173 ?_
      refine aw_iadd hK dX8_keeps_174 ?_
      refine aw_aload_n hK 0 rfl dX8_keeps_175 ?_
      refine gf_8_25 hK rfl (91) rfl (List.mem_of_getElem? (i := 17) rfl) dX8_keeps_176 ?_
      refine aw_iload_n hK 2 rfl dX8_keeps_179 ?_
      obtain ⟨g28, hF⟩ := gd_some hF
      refine aw_iald hK rfl g28 dX8_keeps_180 ?_
      obtain ⟨g29, hF⟩ := gd_some hF
      refine aw_iast hK rfl g29 dX8_keeps_181 ?_
      obtain ⟨m30, hm30, hF⟩ := bnd_some hF
      refine aw_mm hm30 ?_
      obtain ⟨y31, hy31, hF⟩ := bnd_some hF
      refine aw_iinc hK (cz := 1) 2 [(2, q_i y31), (0, q_r 70), (1, q_i x1)] (by decide) rfl rfl hy31 rfl dX8_keeps_182 ?_
      refine aw_goto hK 84 rfl dX8_keeps_185 ?_
      refine aw_sub [1, 2, 0] (lv' := [(0, q_r 70), (1, q_i x1), (2, q_i y31)]) rfl ?_
      exact hrec_84 hF
def B_X8_keeps_41 (N : Nat) (rec_2 : Mem → Int32 → Option (Int32 × Mem)) (m : Mem) (x1 : Int32) : Option (Int32 × Mem) :=
  bnd (x1 + (1 : Int32)) fun y14 =>
  rec_2 m y14
set_option maxRecDepth 100000 in
set_option maxHeartbeats 4000000 in
theorem bk_X8_keeps_41 {N : Nat} {K : KT} {m' : Mem} {rec_2 : Mem → Int32 → Option (Int32 × Mem)} {r : Int32} (hK : KOK K cX8_keeps 3 RX8 wsX8_keeps 1 0 27) (hR : KRet K (some .int) (some r) m') (hrec_2 : ∀ {m : Mem} {x1 : Int32}, rec_2 m x1 = some (r, m') → AW K 0 2 [(0, q_r 70), (1, q_i x1)] [] m) {m : Mem} {x1 : Int32} (hF : B_X8_keeps_41 N rec_2 m x1 = some (r, m')) : AW K 0 41 [(0, q_r 70), (1, q_i x1)] [] m := by
  unfold B_X8_keeps_41 at hF
  obtain ⟨y14, hy14, hF⟩ := bnd_some hF
  refine aw_iinc hK (cz := 1) 1 [(1, q_i y14), (0, q_r 70)] (by decide) rfl rfl hy14 rfl dX8_keeps_41 ?_
  refine aw_goto hK 2 rfl dX8_keeps_44 ?_
  refine aw_sub [1, 0] (lv' := [(0, q_r 70), (1, q_i y14)]) rfl ?_
  exact hrec_2 hF
def S_X8_keeps_12 (N : Nat) (rec_2 : Mem → Int32 → Option (Int32 × Mem)) (rec_12 : Mem → Int32 → Int32 → Option (Int32 × Mem)) (m : Mem) (x1 : Int32) (x2 : Int32) : Option (Int32 × Mem) :=
  if x2 ≤ (0 : Int32) then (
    B_X8_keeps_41 N rec_2 m x1
  ) else (
    cal (F_X8_isBehind N m (x2 - (1 : Int32)) x2) fun r10 m9 =>
    if r10 = (0 : Int32) then (
      B_X8_keeps_41 N rec_2 m9 x1
    ) else (
      calv (F_X8_exchanges N m9 (x2 - (1 : Int32)) x2) fun m12 =>
      bnd (x2 + (-1 : Int32)) fun y13 =>
      rec_12 m12 x1 y13
    )
  )
def L_X8_keeps_12 (N : Nat) (rec_2 : Mem → Int32 → Option (Int32 × Mem)) : Nat → Mem → Int32 → Int32 → Option (Int32 × Mem)
  | 0 => fun _ _ _ => none
  | f + 1 => S_X8_keeps_12 N rec_2 (L_X8_keeps_12 N rec_2 f)
set_option maxRecDepth 100000 in
set_option maxHeartbeats 4000000 in
theorem lp_X8_keeps_12 {N : Nat} {K : KT} {m' : Mem} {rec_2 : Mem → Int32 → Option (Int32 × Mem)} {r : Int32} (hK : KOK K cX8_keeps 3 RX8 wsX8_keeps 1 0 27) (hR : KRet K (some .int) (some r) m') (hrec_2 : ∀ {m : Mem} {x1 : Int32}, rec_2 m x1 = some (r, m') → AW K 0 2 [(0, q_r 70), (1, q_i x1)] [] m) : ∀ (f : Nat) {m : Mem} {x1 : Int32} {x2 : Int32}, L_X8_keeps_12 N rec_2 f m x1 x2 = some (r, m') → AW K 0 12 [(0, q_r 70), (1, q_i x1), (2, q_i x2)] [] m := by
  intro f
  induction f with
  | zero => intro m x1 x2 hF; cases hF
  | succ f hrec_12 =>
    intro m x1 x2 hF
    have hF : S_X8_keeps_12 N rec_2 (L_X8_keeps_12 N rec_2 f) m x1 x2 = some (r, m') := hF
    unfold S_X8_keeps_12 at hF
    refine aw_iload_n hK 2 rfl dX8_keeps_12 ?_
    refine aw_if_le hK 41 rfl dX8_keeps_13 (fun hc => ?_) (fun hc => ?_)
    · have hF := if_t hF hc
      refine aw_sub [0, 1] (lv' := [(0, q_r 70), (1, q_i x1)]) rfl ?_
      exact bk_X8_keeps_41 hK hR hrec_2 hF
    · have hF := if_f hF hc
      refine aw_aload_n hK 0 rfl dX8_keeps_16 ?_
      refine aw_iload_n hK 2 rfl dX8_keeps_17 ?_
      refine aw_iconst hK (1) rfl dX8_keeps_18 ?_
      refine aw_isub hK dX8_keeps_19 ?_
      refine aw_iload_n hK 2 rfl dX8_keeps_20 ?_
      obtain ⟨r10, m9, h8, hF⟩ := cal_some hF
      refine aw_cv hK 8 (as := [q_i (x2 - (1 : Int32)), q_i x2]) (tr_X8_isBehind h8) gX8_keeps_X8_isBehind rfl rfl rfl (by decide) (na := 2) (by decide +kernel) rfl ⟨by decide, by decide⟩ (Nat.zero_le _) (Nat.le_of_ble_eq_true rfl) dX8_keeps_21 ?_
      refine aw_if_eq hK 41 rfl dX8_keeps_24 (fun hc => ?_) (fun hc => ?_)
      · have hF := if_t hF hc
        refine aw_sub [0, 1] (lv' := [(0, q_r 70), (1, q_i x1)]) rfl ?_
        exact bk_X8_keeps_41 hK hR hrec_2 hF
      · have hF := if_f hF hc
        refine aw_aload_n hK 0 rfl dX8_keeps_27 ?_
        refine aw_iload_n hK 2 rfl dX8_keeps_28 ?_
        refine aw_iconst hK (1) rfl dX8_keeps_29 ?_
        refine aw_isub hK dX8_keeps_30 ?_
        refine aw_iload_n hK 2 rfl dX8_keeps_31 ?_
        obtain ⟨m12, h11, hF⟩ := calv_some hF
        refine aw_cv hK 8 (as := [q_i (x2 - (1 : Int32)), q_i x2]) (tr_X8_exchanges h11) gX8_keeps_X8_exchanges rfl rfl rfl (by decide) (na := 2) (by decide +kernel) rfl ⟨by decide, by decide⟩ (Nat.zero_le _) (Nat.le_of_ble_eq_true rfl) dX8_keeps_32 ?_
        obtain ⟨y13, hy13, hF⟩ := bnd_some hF
        refine aw_iinc hK (cz := -1) 2 [(2, q_i y13), (0, q_r 70), (1, q_i x1)] (by decide) rfl rfl hy13 rfl dX8_keeps_35 ?_
        refine aw_goto hK 12 rfl dX8_keeps_38 ?_
        refine aw_sub [1, 2, 0] (lv' := [(0, q_r 70), (1, q_i x1), (2, q_i y13)]) rfl ?_
        exact hrec_12 hF
def S_X8_keeps_2 (N : Nat) (rec_2 : Mem → Int32 → Option (Int32 × Mem)) (m : Mem) (x1 : Int32) : Option (Int32 × Mem) :=
  if (m 70 26) ≤ x1 then (
    bnd (m 70 11) fun y1 =>
    gd (inb y1 (alen 72)) <|
    bnd (mup m 72 (ix y1) (m 70 20)) fun m3 =>
    gd (inb y1 (alen 73)) <|
    bnd (mup m3 73 (ix y1) (m3 70 27)) fun m5 =>
    gd (inb y1 (alen 74)) <|
    bnd (mup m5 74 (ix y1) (m5 70 26)) fun m7 =>
    L_X8_keeps_84 N N m7 y1 (0 : Int32)
  ) else (
    L_X8_keeps_12 N rec_2 N m x1 x1
  )
def L_X8_keeps_2 (N : Nat) : Nat → Mem → Int32 → Option (Int32 × Mem)
  | 0 => fun _ _ => none
  | f + 1 => S_X8_keeps_2 N (L_X8_keeps_2 N f)
set_option maxRecDepth 100000 in
set_option maxHeartbeats 4000000 in
theorem lp_X8_keeps_2 {N : Nat} {K : KT} {m' : Mem} {r : Int32} (hK : KOK K cX8_keeps 3 RX8 wsX8_keeps 1 0 27) (hR : KRet K (some .int) (some r) m') : ∀ (f : Nat) {m : Mem} {x1 : Int32}, L_X8_keeps_2 N f m x1 = some (r, m') → AW K 0 2 [(0, q_r 70), (1, q_i x1)] [] m := by
  intro f
  induction f with
  | zero => intro m x1 hF; cases hF
  | succ f hrec_2 =>
    intro m x1 hF
    have hF : S_X8_keeps_2 N (L_X8_keeps_2 N f) m x1 = some (r, m') := hF
    unfold S_X8_keeps_2 at hF
    refine aw_iload_n hK 1 rfl dX8_keeps_2 ?_
    refine aw_aload_n hK 0 rfl dX8_keeps_3 ?_
    refine gf_8_26 hK rfl (List.mem_of_getElem? (i := 1) rfl) dX8_keeps_4 ?_
    refine aw_icmp_ge hK 47 rfl dX8_keeps_7 (fun hc => ?_) (fun hc => ?_)
    · have hF := if_t hF hc
      refine aw_aload_n hK 0 rfl dX8_keeps_47 ?_
      refine gf_8_11 hK rfl (List.mem_of_getElem? (i := 2) rfl) dX8_keeps_48 ?_
      obtain ⟨y1, hy1, hF⟩ := bnd_some hF
      refine aw_nm hy1 ?_
      refine aw_istore_n hK [(1, q_i y1), (0, q_r 70)] (by decide) rfl dX8_keeps_51 ?_
      refine aw_aload_n hK 1 rfl dX8_keeps_52 ?_
      refine gf_8_3 hK rfl (72) rfl (List.mem_of_getElem? (i := 3) rfl) dX8_keeps_53 ?_
      refine aw_iload_n hK 0 rfl dX8_keeps_56 ?_
      refine aw_aload_n hK 1 rfl dX8_keeps_57 ?_
      refine gf_8_20 hK rfl (List.mem_of_getElem? (i := 4) rfl) dX8_keeps_58 ?_
      obtain ⟨g2, hF⟩ := gd_some hF
      refine aw_iast hK rfl g2 dX8_keeps_61 ?_
      obtain ⟨m3, hm3, hF⟩ := bnd_some hF
      refine aw_mm hm3 ?_
      refine aw_aload_n hK 1 rfl dX8_keeps_62 ?_
      refine gf_8_4 hK rfl (73) rfl (List.mem_of_getElem? (i := 5) rfl) dX8_keeps_63 ?_
      refine aw_iload_n hK 0 rfl dX8_keeps_66 ?_
      refine aw_aload_n hK 1 rfl dX8_keeps_67 ?_
      refine gf_8_27 hK rfl (List.mem_of_getElem? (i := 6) rfl) dX8_keeps_68 ?_
      obtain ⟨g4, hF⟩ := gd_some hF
      refine aw_iast hK rfl g4 dX8_keeps_71 ?_
      obtain ⟨m5, hm5, hF⟩ := bnd_some hF
      refine aw_mm hm5 ?_
      refine aw_aload_n hK 1 rfl dX8_keeps_72 ?_
      refine gf_8_5 hK rfl (74) rfl (List.mem_of_getElem? (i := 7) rfl) dX8_keeps_73 ?_
      refine aw_iload_n hK 0 rfl dX8_keeps_76 ?_
      refine aw_aload_n hK 1 rfl dX8_keeps_77 ?_
      refine gf_8_26 hK rfl (List.mem_of_getElem? (i := 1) rfl) dX8_keeps_78 ?_
      obtain ⟨g6, hF⟩ := gd_some hF
      refine aw_iast hK rfl g6 dX8_keeps_81 ?_
      obtain ⟨m7, hm7, hF⟩ := bnd_some hF
      refine aw_mm hm7 ?_
      refine aw_iconst hK (0) rfl dX8_keeps_82 ?_
      refine aw_istore_n hK [(2, q_i (0 : Int32)), (1, q_i y1), (0, q_r 70)] (by decide) rfl dX8_keeps_83 ?_
      refine aw_sub [2, 1, 0] (lv' := [(0, q_r 70), (1, q_i y1), (2, q_i (0 : Int32))]) rfl ?_
      exact lp_X8_keeps_84 hK hR _ hF
    · have hF := if_f hF hc
      refine aw_iload_n hK 1 rfl dX8_keeps_10 ?_
      refine aw_istore_n hK [(2, q_i x1), (0, q_r 70), (1, q_i x1)] (by decide) rfl dX8_keeps_11 ?_
      refine aw_sub [1, 2, 0] (lv' := [(0, q_r 70), (1, q_i x1), (2, q_i x1)]) rfl ?_
      exact lp_X8_keeps_12 hK hR hrec_2 _ hF
def F_X8_keeps (N : Nat) (m : Mem) : Option (Int32 × Mem) :=
  L_X8_keeps_2 N N m (1 : Int32)
set_option maxRecDepth 100000 in
set_option maxHeartbeats 4000000 in
theorem tr_X8_keeps {N : Nat} {m m' : Mem} {r : Int32} (hF : F_X8_keeps N m = some (r, m')) : Tr yX8_keeps wsX8_keeps 1 27 [q_r 70] m (some r) m' := by
  refine tr_of (bytes := cX8_keeps) (maxL := 3) (ret := (some .int)) (by decide) rfl (Nat.le_of_ble_eq_true rfl) (fun K hK hR => ?_)
  have hK : KOK K cX8_keeps 3 RX8 wsX8_keeps 1 0 27 := hK
  show AW K 0 0 [(0, q_r 70)] [] m
  unfold F_X8_keeps at hF
  refine aw_iconst hK (1) rfl dX8_keeps_0 ?_
  refine aw_istore_n hK [(1, q_i (1 : Int32)), (0, q_r 70)] (by decide) rfl dX8_keeps_1 ?_
  refine aw_sub [1, 0] (lv' := [(0, q_r 70), (1, q_i (1 : Int32))]) rfl ?_
  exact lp_X8_keeps_2 hK hR _ hF
def B_X8_isThere_14 (N : Nat) (m : Mem) (s0 : Int32) : Option (Int32 × Mem) :=
  gd (isb s0) <|
  some (s0, m)
set_option maxRecDepth 100000 in
set_option maxHeartbeats 4000000 in
theorem bk_X8_isThere_14 {N : Nat} {K : KT} {m' : Mem} {r : Int32} (hK : KOK K cX8_isThere 1 RX8 wsX8_isThere 0 0 0) (hR : KRet K (some .boolean) (some r) m') {m : Mem} {s0 : Int32} (hF : B_X8_isThere_14 N m s0 = some (r, m')) : AW K 0 14 [] [q_i s0] m := by
  unfold B_X8_isThere_14 at hF
  obtain ⟨g1, hF⟩ := gd_some hF
  obtain ⟨rfl, rfl⟩ := so_inj hF
  exact aw_iret hK hR (isb_narrow g1) dX8_isThere_14
def F_X8_isThere (N : Nat) (m : Mem) : Option (Int32 × Mem) :=
  if (24 : Int32) ≤ (m 70 11) then (
    B_X8_isThere_14 N m (0 : Int32)
  ) else (
    B_X8_isThere_14 N m (1 : Int32)
  )
set_option maxRecDepth 100000 in
set_option maxHeartbeats 4000000 in
theorem tr_X8_isThere {N : Nat} {m m' : Mem} {r : Int32} (hF : F_X8_isThere N m = some (r, m')) : Tr yX8_isThere wsX8_isThere 0 0 [q_r 70] m (some r) m' := by
  refine tr_of (bytes := cX8_isThere) (maxL := 1) (ret := (some .boolean)) (by decide) rfl (Nat.le_of_ble_eq_true rfl) (fun K hK hR => ?_)
  have hK : KOK K cX8_isThere 1 RX8 wsX8_isThere 0 0 0 := hK
  show AW K 0 0 [(0, q_r 70)] [] m
  unfold F_X8_isThere at hF
  refine aw_aload_n hK 0 rfl dX8_isThere_0 ?_
  refine gf_8_11 hK rfl (List.mem_of_getElem? (i := 1) rfl) dX8_isThere_1 ?_
  refine aw_bipush hK (24) rfl dX8_isThere_4 ?_
  refine aw_icmp_ge hK 13 rfl dX8_isThere_6 (fun hc => ?_) (fun hc => ?_)
  · have hF := if_t hF hc
    refine aw_iconst hK (0) rfl dX8_isThere_13 ?_
    refine aw_sub [] (lv' := []) rfl ?_
    exact bk_X8_isThere_14 hK hR hF
  · have hF := if_f hF hc
    refine aw_iconst hK (1) rfl dX8_isThere_9 ?_
    refine aw_goto hK 14 rfl dX8_isThere_10 ?_
    refine aw_sub [] (lv' := []) rfl ?_
    exact bk_X8_isThere_14 hK hR hF
def B_X8_isEndOf_19 (N : Nat) (m : Mem) (s0 : Int32) : Option (Int32 × Mem) :=
  gd (isb s0) <|
  some (s0, m)
set_option maxRecDepth 100000 in
set_option maxHeartbeats 4000000 in
theorem bk_X8_isEndOf_19 {N : Nat} {K : KT} {m' : Mem} {r : Int32} (hK : KOK K cX8_isEndOf 3 RX8 wsX8_isEndOf 0 0 0) (hR : KRet K (some .boolean) (some r) m') {m : Mem} {s0 : Int32} (hF : B_X8_isEndOf_19 N m s0 = some (r, m')) : AW K 0 19 [] [q_i s0] m := by
  unfold B_X8_isEndOf_19 at hF
  obtain ⟨g2, hF⟩ := gd_some hF
  obtain ⟨rfl, rfl⟩ := so_inj hF
  exact aw_iret hK hR (isb_narrow g2) dX8_isEndOf_19
def F_X8_isEndOf (N : Nat) (m : Mem) (x1 : Int32) (x2 : Int32) : Option (Int32 × Mem) :=
  gd (inb x1 (alen 73)) <|
  if ((q_shr (m 73 (ix x1)) x2) &&& (1 : Int32)) = (1 : Int32) then (
    B_X8_isEndOf_19 N m (1 : Int32)
  ) else (
    B_X8_isEndOf_19 N m (0 : Int32)
  )
set_option maxRecDepth 100000 in
set_option maxHeartbeats 4000000 in
theorem tr_X8_isEndOf {N : Nat} {m m' : Mem} {r : Int32} {x1 : Int32} {x2 : Int32} (hF : F_X8_isEndOf N m x1 x2 = some (r, m')) : Tr yX8_isEndOf wsX8_isEndOf 0 0 [q_r 70, q_i x1, q_i x2] m (some r) m' := by
  refine tr_of (bytes := cX8_isEndOf) (maxL := 3) (ret := (some .boolean)) (by decide) rfl (Nat.le_of_ble_eq_true rfl) (fun K hK hR => ?_)
  have hK : KOK K cX8_isEndOf 3 RX8 wsX8_isEndOf 0 0 0 := hK
  show AW K 0 0 [(0, q_r 70), (1, q_i x1), (2, q_i x2)] [] m
  unfold F_X8_isEndOf at hF
  refine aw_aload_n hK 0 rfl dX8_isEndOf_0 ?_
  refine gf_8_4 hK rfl (73) rfl (List.mem_of_getElem? (i := 1) rfl) dX8_isEndOf_1 ?_
  refine aw_iload_n hK 1 rfl dX8_isEndOf_4 ?_
  obtain ⟨g1, hF⟩ := gd_some hF
  refine aw_iald hK rfl g1 dX8_isEndOf_5 ?_
  refine aw_iload_n hK 2 rfl dX8_isEndOf_6 ?_
  refine aw_ishr hK dX8_isEndOf_7 ?_
  refine aw_iconst hK (1) rfl dX8_isEndOf_8 ?_
  refine aw_iand hK dX8_isEndOf_9 ?_
  refine aw_iconst hK (1) rfl dX8_isEndOf_10 ?_
  refine aw_icmp_ne hK 18 rfl dX8_isEndOf_11 (fun hc => ?_) (fun hc => ?_)
  · have hF := if_f hF hc
    refine aw_iconst hK (0) rfl dX8_isEndOf_18 ?_
    refine aw_sub [] (lv' := []) rfl ?_
    exact bk_X8_isEndOf_19 hK hR hF
  · have hF := if_t hF hc
    refine aw_iconst hK (1) rfl dX8_isEndOf_14 ?_
    refine aw_goto hK 19 rfl dX8_isEndOf_15 ?_
    refine aw_sub [] (lv' := []) rfl ?_
    exact bk_X8_isEndOf_19 hK hR hF
def S_X8_puts_6 (N : Nat) (rec_6 : Mem → Int32 → Int32 → Int32 → Option Mem) (m : Mem) (x1 : Int32) (x2 : Int32) (x3 : Int32) : Option Mem :=
  gd (inb x1 (alen 74)) <|
  if (((160 : Int32) * x1) + (m 74 (ix x1))) ≤ x3 then (
    some m
  ) else (
    gd (inb x3 (alen 75)) <|
    gd (inb x3 (alen 76)) <|
    gd (inb x3 (alen 77)) <|
    gd (inb x3 (alen 78)) <|
    gd (inb x3 (alen 79)) <|
    calv (F_X8_adds N m (x2 + (m 75 (ix x3))) (m 76 (ix x3)) (m 77 (ix x3)) (m 78 (ix x3)) (x2 + (m 79 (ix x3)))) fun m9 =>
    bnd (x3 + (1 : Int32)) fun y10 =>
    rec_6 m9 x1 x2 y10
  )
def L_X8_puts_6 (N : Nat) : Nat → Mem → Int32 → Int32 → Int32 → Option Mem
  | 0 => fun _ _ _ _ => none
  | f + 1 => S_X8_puts_6 N (L_X8_puts_6 N f)
set_option maxRecDepth 100000 in
set_option maxHeartbeats 4000000 in
theorem lp_X8_puts_6 {N : Nat} {K : KT} {m' : Mem} (hK : KOK K cX8_puts 4 RX8 wsX8_puts 1 0 25) (hR : KRet K none none m') : ∀ (f : Nat) {m : Mem} {x1 : Int32} {x2 : Int32} {x3 : Int32}, L_X8_puts_6 N f m x1 x2 x3 = some m' → AW K 0 6 [(0, q_r 70), (1, q_i x1), (2, q_i x2), (3, q_i x3)] [] m := by
  intro f
  induction f with
  | zero => intro m x1 x2 x3 hF; cases hF
  | succ f hrec_6 =>
    intro m x1 x2 x3 hF
    have hF : S_X8_puts_6 N (L_X8_puts_6 N f) m x1 x2 x3 = some m' := hF
    unfold S_X8_puts_6 at hF
    refine aw_iload_n hK 3 rfl dX8_puts_6 ?_
    refine aw_sipush hK (160) rfl dX8_puts_7 ?_
    refine aw_iload_n hK 1 rfl dX8_puts_10 ?_
    refine aw_imul hK dX8_puts_11 ?_
    refine aw_aload_n hK 0 rfl dX8_puts_12 ?_
    refine gf_8_5 hK rfl (74) rfl (List.mem_of_getElem? (i := 1) rfl) dX8_puts_13 ?_
    refine aw_iload_n hK 1 rfl dX8_puts_16 ?_
    obtain ⟨g2, hF⟩ := gd_some hF
    refine aw_iald hK rfl g2 dX8_puts_17 ?_
    refine aw_iadd hK dX8_puts_18 ?_
    refine aw_icmp_ge hK 66 rfl dX8_puts_19 (fun hc => ?_) (fun hc => ?_)
    · have hF := if_t hF hc
      obtain rfl := Option.some.inj hF
      exact aw_vret hK hR dX8_puts_66
    · have hF := if_f hF hc
      refine aw_aload_n hK 0 rfl dX8_puts_22 ?_
      refine aw_iload_n hK 2 rfl dX8_puts_23 ?_
      refine aw_aload_n hK 0 rfl dX8_puts_24 ?_
      refine gf_8_6 hK rfl (75) rfl (List.mem_of_getElem? (i := 2) rfl) dX8_puts_25 ?_
      refine aw_iload_n hK 3 rfl dX8_puts_28 ?_
      obtain ⟨g3, hF⟩ := gd_some hF
      refine aw_iald hK rfl g3 dX8_puts_29 ?_
      refine aw_iadd hK dX8_puts_30 ?_
      refine aw_aload_n hK 0 rfl dX8_puts_31 ?_
      refine gf_8_7 hK rfl (76) rfl (List.mem_of_getElem? (i := 3) rfl) dX8_puts_32 ?_
      refine aw_iload_n hK 3 rfl dX8_puts_35 ?_
      obtain ⟨g4, hF⟩ := gd_some hF
      refine aw_iald hK rfl g4 dX8_puts_36 ?_
      refine aw_aload_n hK 0 rfl dX8_puts_37 ?_
      refine gf_8_8 hK rfl (77) rfl (List.mem_of_getElem? (i := 4) rfl) dX8_puts_38 ?_
      refine aw_iload_n hK 3 rfl dX8_puts_41 ?_
      obtain ⟨g5, hF⟩ := gd_some hF
      refine aw_iald hK rfl g5 dX8_puts_42 ?_
      refine aw_aload_n hK 0 rfl dX8_puts_43 ?_
      refine gf_8_9 hK rfl (78) rfl (List.mem_of_getElem? (i := 5) rfl) dX8_puts_44 ?_
      refine aw_iload_n hK 3 rfl dX8_puts_47 ?_
      obtain ⟨g6, hF⟩ := gd_some hF
      refine aw_iald hK rfl g6 dX8_puts_48 ?_
      refine aw_iload_n hK 2 rfl dX8_puts_49 ?_
      refine aw_aload_n hK 0 rfl dX8_puts_50 ?_
      refine gf_8_10 hK rfl (79) rfl (List.mem_of_getElem? (i := 6) rfl) dX8_puts_51 ?_
      refine aw_iload_n hK 3 rfl dX8_puts_54 ?_
      obtain ⟨g7, hF⟩ := gd_some hF
      refine aw_iald hK rfl g7 dX8_puts_55 ?_
      refine aw_iadd hK dX8_puts_56 ?_
      obtain ⟨m9, h8, hF⟩ := calv_some hF
      refine aw_cv hK 8 (as := [q_i (x2 + (m 75 (ix x3))), q_i (m 76 (ix x3)), q_i (m 77 (ix x3)), q_i (m 78 (ix x3)), q_i (x2 + (m 79 (ix x3)))]) (tr_X8_adds h8) gX8_puts_X8_adds rfl rfl rfl (by decide) (na := 5) (by decide +kernel) rfl ⟨by decide, by decide⟩ (Nat.zero_le _) (Nat.le_of_ble_eq_true rfl) dX8_puts_57 ?_
      obtain ⟨y10, hy10, hF⟩ := bnd_some hF
      refine aw_iinc hK (cz := 1) 3 [(3, q_i y10), (0, q_r 70), (1, q_i x1), (2, q_i x2)] (by decide) rfl rfl hy10 rfl dX8_puts_60 ?_
      refine aw_goto hK 6 rfl dX8_puts_63 ?_
      refine aw_sub [1, 2, 3, 0] (lv' := [(0, q_r 70), (1, q_i x1), (2, q_i x2), (3, q_i y10)]) rfl ?_
      exact hrec_6 hF
def F_X8_puts (N : Nat) (m : Mem) (x1 : Int32) (x2 : Int32) : Option Mem :=
  bnd ((160 : Int32) * x1) fun y1 =>
  L_X8_puts_6 N N m x1 x2 y1
set_option maxRecDepth 100000 in
set_option maxHeartbeats 4000000 in
theorem tr_X8_puts {N : Nat} {m m' : Mem} {x1 : Int32} {x2 : Int32} (hF : F_X8_puts N m x1 x2 = some m') : Tr yX8_puts wsX8_puts 1 25 [q_r 70, q_i x1, q_i x2] m none m' := by
  refine tr_of (bytes := cX8_puts) (maxL := 4) (ret := none) (by decide) rfl (Nat.le_of_ble_eq_true rfl) (fun K hK hR => ?_)
  have hK : KOK K cX8_puts 4 RX8 wsX8_puts 1 0 25 := hK
  show AW K 0 0 [(0, q_r 70), (1, q_i x1), (2, q_i x2)] [] m
  unfold F_X8_puts at hF
  refine aw_sipush hK (160) rfl dX8_puts_0 ?_
  refine aw_iload_n hK 1 rfl dX8_puts_3 ?_
  refine aw_imul hK dX8_puts_4 ?_
  obtain ⟨y1, hy1, hF⟩ := bnd_some hF
  refine aw_nm hy1 ?_
  refine aw_istore_n hK [(3, q_i y1), (0, q_r 70), (1, q_i x1), (2, q_i x2)] (by decide) rfl dX8_puts_5 ?_
  refine aw_sub [1, 2, 3, 0] (lv' := [(0, q_r 70), (1, q_i x1), (2, q_i x2), (3, q_i y1)]) rfl ?_
  exact lp_X8_puts_6 hK hR _ hF
def B_X8_pair_103 (N : Nat) (m : Mem) (s0 : Int32) : Option (Int32 × Mem) :=
  some (s0, m)
set_option maxRecDepth 100000 in
set_option maxHeartbeats 4000000 in
theorem bk_X8_pair_103 {N : Nat} {K : KT} {m' : Mem} {r : Int32} (hK : KOK K cX8_pair 5 RX8 wsX8_pair 3 0 70) (hR : KRet K (some .int) (some r) m') {m : Mem} {s0 : Int32} (hF : B_X8_pair_103 N m s0 = some (r, m')) : AW K 0 103 [] [q_i s0] m := by
  unfold B_X8_pair_103 at hF
  obtain ⟨rfl, rfl⟩ := so_inj hF
  exact aw_iret hK hR rfl dX8_pair_103
def B_X8_pair_59 (N : Nat) (m : Mem) (x1 : Int32) (x2 : Int32) (x3 : Int32) (s0 : Int32) : Option (Int32 × Mem) :=
  cal (F_X8_isFine N m s0) fun r6 m5 =>
  if r6 = (0 : Int32) then (
    some ((0 : Int32), m5)
  ) else (
    calv (F_X8_begins N m5) fun m8 =>
    calv (F_X8_adds N m8 (0 : Int32) x1 x2 x3 (1 : Int32)) fun m10 =>
    gd (inb (1 : Int32) (alen 82)) <|
    bnd (mup m10 82 (ix (1 : Int32)) (1 : Int32)) fun m12 =>
    cal (F_X8_trims N m12 (0 : Int32)) fun r15 m14 =>
    if r15 = (0 : Int32) then (
      B_X8_pair_103 N m14 (0 : Int32)
    ) else (
      cal (F_X8_keeps N m14) fun r18 m17 =>
      B_X8_pair_103 N m17 r18
    )
  )
set_option maxRecDepth 100000 in
set_option maxHeartbeats 4000000 in
theorem bk_X8_pair_59 {N : Nat} {K : KT} {m' : Mem} {r : Int32} (hK : KOK K cX8_pair 5 RX8 wsX8_pair 3 0 70) (hR : KRet K (some .int) (some r) m') {m : Mem} {x1 : Int32} {x2 : Int32} {x3 : Int32} {s0 : Int32} (hF : B_X8_pair_59 N m x1 x2 x3 s0 = some (r, m')) : AW K 0 59 [(0, q_r 70), (1, q_i x1), (2, q_i x2), (3, q_i x3)] [q_i s0, q_r 70] m := by
  unfold B_X8_pair_59 at hF
  obtain ⟨r6, m5, h4, hF⟩ := cal_some hF
  refine aw_cv hK 8 (as := [q_i s0]) (tr_X8_isFine h4) gX8_pair_X8_isFine rfl rfl rfl (by decide) (na := 1) (by decide +kernel) rfl ⟨by decide, by decide⟩ (Nat.zero_le _) (Nat.le_of_ble_eq_true rfl) dX8_pair_59 ?_
  refine aw_if_ne hK 67 rfl dX8_pair_62 (fun hc => ?_) (fun hc => ?_)
  · have hF := if_f hF hc
    refine aw_aload_n hK 0 rfl dX8_pair_67 ?_
    obtain ⟨m8, h7, hF⟩ := calv_some hF
    refine aw_cv hK 8 (as := []) (tr_X8_begins h7) gX8_pair_X8_begins rfl rfl rfl (by decide) (na := 0) (by decide +kernel) rfl ⟨by decide, by decide⟩ (Nat.zero_le _) (Nat.le_of_ble_eq_true rfl) dX8_pair_68 ?_
    refine aw_aload_n hK 0 rfl dX8_pair_71 ?_
    refine aw_iconst hK (0) rfl dX8_pair_72 ?_
    refine aw_iload_n hK 1 rfl dX8_pair_73 ?_
    refine aw_iload_n hK 2 rfl dX8_pair_74 ?_
    refine aw_iload_n hK 3 rfl dX8_pair_75 ?_
    refine aw_iconst hK (1) rfl dX8_pair_76 ?_
    obtain ⟨m10, h9, hF⟩ := calv_some hF
    refine aw_cv hK 8 (as := [q_i (0 : Int32), q_i x1, q_i x2, q_i x3, q_i (1 : Int32)]) (tr_X8_adds h9) gX8_pair_X8_adds rfl rfl rfl (by decide) (na := 5) (by decide +kernel) rfl ⟨by decide, by decide⟩ (Nat.zero_le _) (Nat.le_of_ble_eq_true rfl) dX8_pair_77 ?_
    refine aw_aload_n hK 0 rfl dX8_pair_80 ?_
    refine gf_8_15 hK rfl (82) rfl (List.mem_of_getElem? (i := 1) rfl) dX8_pair_81 ?_
    refine aw_iconst hK (1) rfl dX8_pair_84 ?_
    refine aw_iconst hK (1) rfl dX8_pair_85 ?_
    obtain ⟨g11, hF⟩ := gd_some hF
    refine aw_zast hK rfl g11 rfl dX8_pair_86 ?_
    obtain ⟨m12, hm12, hF⟩ := bnd_some hF
    refine aw_mm hm12 ?_
    refine aw_aload_n hK 0 rfl dX8_pair_87 ?_
    refine aw_iconst hK (0) rfl dX8_pair_88 ?_
    obtain ⟨r15, m14, h13, hF⟩ := cal_some hF
    refine aw_cv hK 8 (as := [q_i (0 : Int32)]) (tr_X8_trims h13) gX8_pair_X8_trims rfl rfl rfl (by decide) (na := 1) (by decide +kernel) rfl ⟨by decide, by decide⟩ (Nat.zero_le _) (Nat.le_of_ble_eq_true rfl) dX8_pair_89 ?_
    refine aw_if_eq hK 102 rfl dX8_pair_92 (fun hc => ?_) (fun hc => ?_)
    · have hF := if_t hF hc
      refine aw_iconst hK (0) rfl dX8_pair_102 ?_
      refine aw_sub [] (lv' := []) rfl ?_
      exact bk_X8_pair_103 hK hR hF
    · have hF := if_f hF hc
      refine aw_aload_n hK 0 rfl dX8_pair_95 ?_
      obtain ⟨r18, m17, h16, hF⟩ := cal_some hF
      refine aw_cv hK 8 (as := []) (tr_X8_keeps h16) gX8_pair_X8_keeps rfl rfl rfl (by decide) (na := 0) (by decide +kernel) rfl ⟨by decide, by decide⟩ (Nat.zero_le _) (Nat.le_of_ble_eq_true rfl) dX8_pair_96 ?_
      refine aw_goto hK 103 rfl dX8_pair_99 ?_
      refine aw_sub [] (lv' := []) rfl ?_
      exact bk_X8_pair_103 hK hR hF
  · have hF := if_t hF hc
    refine aw_iconst hK (0) rfl dX8_pair_65 ?_
    obtain ⟨rfl, rfl⟩ := so_inj hF
    exact aw_iret hK hR rfl dX8_pair_66
def B_X8_pair_35 (N : Nat) (m : Mem) (x1 : Int32) (x2 : Int32) (x3 : Int32) (s0 : Int32) : Option (Int32 × Mem) :=
  if s0 = (0 : Int32) then (
    B_X8_pair_59 N m x1 x2 x3 (1 : Int32)
  ) else (
    cal (F_X8_isThere N m) fun r3 m2 =>
    if r3 = (0 : Int32) then (
      B_X8_pair_59 N m2 x1 x2 x3 (2 : Int32)
    ) else (
      B_X8_pair_59 N m2 x1 x2 x3 (0 : Int32)
    )
  )
set_option maxRecDepth 100000 in
set_option maxHeartbeats 4000000 in
theorem bk_X8_pair_35 {N : Nat} {K : KT} {m' : Mem} {r : Int32} (hK : KOK K cX8_pair 5 RX8 wsX8_pair 3 0 70) (hR : KRet K (some .int) (some r) m') {m : Mem} {x1 : Int32} {x2 : Int32} {x3 : Int32} {s0 : Int32} (hF : B_X8_pair_35 N m x1 x2 x3 s0 = some (r, m')) : AW K 0 35 [(0, q_r 70), (1, q_i x1), (2, q_i x2), (3, q_i x3)] [q_i s0] m := by
  unfold B_X8_pair_35 at hF
  refine aw_istore hK [(4, q_i s0), (0, q_r 70), (1, q_i x1), (2, q_i x2), (3, q_i x3)] (by decide) rfl dX8_pair_35 ?_
  refine aw_aload_n hK 1 rfl dX8_pair_37 ?_
  refine aw_iload hK 0 rfl dX8_pair_38 ?_
  refine aw_if_ne hK 47 rfl dX8_pair_40 (fun hc => ?_) (fun hc => ?_)
  · have hF := if_f hF hc
    refine aw_aload_n hK 1 rfl dX8_pair_47 ?_
    obtain ⟨r3, m2, h1, hF⟩ := cal_some hF
    refine aw_cv hK 8 (as := []) (tr_X8_isThere h1) gX8_pair_X8_isThere rfl rfl rfl (by decide) (na := 0) (by decide +kernel) rfl ⟨by decide, by decide⟩ (Nat.zero_le _) (Nat.le_of_ble_eq_true rfl) dX8_pair_48 ?_
    refine aw_if_ne hK 58 rfl dX8_pair_51 (fun hc => ?_) (fun hc => ?_)
    · have hF := if_f hF hc
      refine aw_iconst hK (0) rfl dX8_pair_58 ?_
      refine aw_sub [1, 2, 3, 4] (lv' := [(0, q_r 70), (1, q_i x1), (2, q_i x2), (3, q_i x3)]) rfl ?_
      exact bk_X8_pair_59 hK hR hF
    · have hF := if_t hF hc
      refine aw_iconst hK (2) rfl dX8_pair_54 ?_
      refine aw_goto hK 59 rfl dX8_pair_55 ?_
      refine aw_sub [1, 2, 3, 4] (lv' := [(0, q_r 70), (1, q_i x1), (2, q_i x2), (3, q_i x3)]) rfl ?_
      exact bk_X8_pair_59 hK hR hF
  · have hF := if_t hF hc
    refine aw_iconst hK (1) rfl dX8_pair_43 ?_
    refine aw_goto hK 59 rfl dX8_pair_44 ?_
    refine aw_sub [1, 2, 3, 4] (lv' := [(0, q_r 70), (1, q_i x1), (2, q_i x2), (3, q_i x3)]) rfl ?_
    exact bk_X8_pair_59 hK hR hF
def B_X8_pair_34 (N : Nat) (m : Mem) (x1 : Int32) (x2 : Int32) (x3 : Int32) : Option (Int32 × Mem) :=
  B_X8_pair_35 N m x1 x2 x3 (0 : Int32)
set_option maxRecDepth 100000 in
set_option maxHeartbeats 4000000 in
theorem bk_X8_pair_34 {N : Nat} {K : KT} {m' : Mem} {r : Int32} (hK : KOK K cX8_pair 5 RX8 wsX8_pair 3 0 70) (hR : KRet K (some .int) (some r) m') {m : Mem} {x1 : Int32} {x2 : Int32} {x3 : Int32} (hF : B_X8_pair_34 N m x1 x2 x3 = some (r, m')) : AW K 0 34 [(0, q_r 70), (1, q_i x1), (2, q_i x2), (3, q_i x3)] [] m := by
  unfold B_X8_pair_34 at hF
  refine aw_iconst hK (0) rfl dX8_pair_34 ?_
  refine aw_sub [0, 1, 2, 3] (lv' := [(0, q_r 70), (1, q_i x1), (2, q_i x2), (3, q_i x3)]) rfl ?_
  exact bk_X8_pair_35 hK hR hF
def F_X8_pair (N : Nat) (m : Mem) (x1 : Int32) (x2 : Int32) (x3 : Int32) : Option (Int32 × Mem) :=
  if (P_X8_isIn x1 (0 : Int32) (8 : Int32)) = (0 : Int32) then (
    B_X8_pair_34 N m x1 x2 x3
  ) else (
    if (P_X8_isIn x2 (0 : Int32) (8 : Int32)) = (0 : Int32) then (
      B_X8_pair_34 N m x1 x2 x3
    ) else (
      if (P_X8_isIn x3 (0 : Int32) (100 : Int32)) = (0 : Int32) then (
        B_X8_pair_34 N m x1 x2 x3
      ) else (
        B_X8_pair_35 N m x1 x2 x3 (1 : Int32)
      )
    )
  )
set_option maxRecDepth 100000 in
set_option maxHeartbeats 4000000 in
theorem tr_X8_pair {N : Nat} {m m' : Mem} {r : Int32} {x1 : Int32} {x2 : Int32} {x3 : Int32} (hF : F_X8_pair N m x1 x2 x3 = some (r, m')) : Tr yX8_pair wsX8_pair 3 70 [q_r 70, q_i x1, q_i x2, q_i x3] m (some r) m' := by
  refine tr_of (bytes := cX8_pair) (maxL := 5) (ret := (some .int)) (by decide) rfl (Nat.le_of_ble_eq_true rfl) (fun K hK hR => ?_)
  have hK : KOK K cX8_pair 5 RX8 wsX8_pair 3 0 70 := hK
  show AW K 0 0 [(0, q_r 70), (1, q_i x1), (2, q_i x2), (3, q_i x3)] [] m
  unfold F_X8_pair at hF
  refine aw_iload_n hK 1 rfl dX8_pair_0 ?_
  refine aw_iconst hK (0) rfl dX8_pair_1 ?_
  refine aw_bipush hK (8) rfl dX8_pair_2 ?_
  refine aw_cs hK (as := [q_i x1, q_i (0 : Int32), q_i (8 : Int32)]) (trp_X8_isIn x1 (0 : Int32) (8 : Int32) _) gX8_pair_X8_isIn rfl (na := 3) (by decide +kernel) rfl ⟨by decide, by decide⟩ (Nat.zero_le _) (Nat.le_of_ble_eq_true rfl) dX8_pair_4 ?_
  refine aw_if_eq hK 34 rfl dX8_pair_7 (fun hc => ?_) (fun hc => ?_)
  · have hF := if_t hF hc
    refine aw_sub [0, 1, 2, 3] (lv' := [(0, q_r 70), (1, q_i x1), (2, q_i x2), (3, q_i x3)]) rfl ?_
    exact bk_X8_pair_34 hK hR hF
  · have hF := if_f hF hc
    refine aw_iload_n hK 2 rfl dX8_pair_10 ?_
    refine aw_iconst hK (0) rfl dX8_pair_11 ?_
    refine aw_bipush hK (8) rfl dX8_pair_12 ?_
    refine aw_cs hK (as := [q_i x2, q_i (0 : Int32), q_i (8 : Int32)]) (trp_X8_isIn x2 (0 : Int32) (8 : Int32) _) gX8_pair_X8_isIn rfl (na := 3) (by decide +kernel) rfl ⟨by decide, by decide⟩ (Nat.zero_le _) (Nat.le_of_ble_eq_true rfl) dX8_pair_14 ?_
    refine aw_if_eq hK 34 rfl dX8_pair_17 (fun hc => ?_) (fun hc => ?_)
    · have hF := if_t hF hc
      refine aw_sub [0, 1, 2, 3] (lv' := [(0, q_r 70), (1, q_i x1), (2, q_i x2), (3, q_i x3)]) rfl ?_
      exact bk_X8_pair_34 hK hR hF
    · have hF := if_f hF hc
      refine aw_iload_n hK 3 rfl dX8_pair_20 ?_
      refine aw_iconst hK (0) rfl dX8_pair_21 ?_
      refine aw_bipush hK (100) rfl dX8_pair_22 ?_
      refine aw_cs hK (as := [q_i x3, q_i (0 : Int32), q_i (100 : Int32)]) (trp_X8_isIn x3 (0 : Int32) (100 : Int32) _) gX8_pair_X8_isIn rfl (na := 3) (by decide +kernel) rfl ⟨by decide, by decide⟩ (Nat.zero_le _) (Nat.le_of_ble_eq_true rfl) dX8_pair_24 ?_
      refine aw_if_eq hK 34 rfl dX8_pair_27 (fun hc => ?_) (fun hc => ?_)
      · have hF := if_t hF hc
        refine aw_sub [0, 1, 2, 3] (lv' := [(0, q_r 70), (1, q_i x1), (2, q_i x2), (3, q_i x3)]) rfl ?_
        exact bk_X8_pair_34 hK hR hF
      · have hF := if_f hF hc
        refine aw_iconst hK (1) rfl dX8_pair_30 ?_
        refine aw_goto hK 35 rfl dX8_pair_31 ?_
        refine aw_sub [0, 1, 2, 3] (lv' := [(0, q_r 70), (1, q_i x1), (2, q_i x2), (3, q_i x3)]) rfl ?_
        exact bk_X8_pair_35 hK hR hF
def B_X8_word_88 (N : Nat) (m : Mem) (s0 : Int32) : Option (Int32 × Mem) :=
  some (s0, m)
set_option maxRecDepth 100000 in
set_option maxHeartbeats 4000000 in
theorem bk_X8_word_88 {N : Nat} {K : KT} {m' : Mem} {r : Int32} (hK : KOK K cX8_word 2 RX8 wsX8_word 3 0 70) (hR : KRet K (some .int) (some r) m') {m : Mem} {s0 : Int32} (hF : B_X8_word_88 N m s0 = some (r, m')) : AW K 0 88 [] [q_i s0] m := by
  unfold B_X8_word_88 at hF
  obtain ⟨rfl, rfl⟩ := so_inj hF
  exact aw_iret hK hR rfl dX8_word_88
def S_X8_word_27 (N : Nat) (rec_27 : Mem → Int32 → Option (Int32 × Mem)) (m : Mem) (x1 : Int32) : Option (Int32 × Mem) :=
  if (m 70 2) ≤ x1 then (
    gd (inb (m 70 2) (alen 82)) <|
    bnd (mup m 82 (ix (m 70 2)) (1 : Int32)) fun m10 =>
    cal (F_X8_trims N m10 (0 : Int32)) fun r13 m12 =>
    if r13 = (0 : Int32) then (
      B_X8_word_88 N m12 (0 : Int32)
    ) else (
      cal (F_X8_keeps N m12) fun r16 m15 =>
      B_X8_word_88 N m15 r16
    )
  ) else (
    gd (inb x1 (alen 71)) <|
    gd (inb x1 (alen 71)) <|
    calv (F_X8_adds N m x1 (m 71 (ix x1)) (m 71 (ix x1)) (0 : Int32) (x1 + (1 : Int32))) fun m20 =>
    bnd (x1 + (1 : Int32)) fun y21 =>
    rec_27 m20 y21
  )
def L_X8_word_27 (N : Nat) : Nat → Mem → Int32 → Option (Int32 × Mem)
  | 0 => fun _ _ => none
  | f + 1 => S_X8_word_27 N (L_X8_word_27 N f)
set_option maxRecDepth 100000 in
set_option maxHeartbeats 4000000 in
theorem lp_X8_word_27 {N : Nat} {K : KT} {m' : Mem} {r : Int32} (hK : KOK K cX8_word 2 RX8 wsX8_word 3 0 70) (hR : KRet K (some .int) (some r) m') : ∀ (f : Nat) {m : Mem} {x1 : Int32}, L_X8_word_27 N f m x1 = some (r, m') → AW K 0 27 [(0, q_r 70), (1, q_i x1)] [] m := by
  intro f
  induction f with
  | zero => intro m x1 hF; cases hF
  | succ f hrec_27 =>
    intro m x1 hF
    have hF : S_X8_word_27 N (L_X8_word_27 N f) m x1 = some (r, m') := hF
    unfold S_X8_word_27 at hF
    refine aw_iload_n hK 1 rfl dX8_word_27 ?_
    refine aw_aload_n hK 0 rfl dX8_word_28 ?_
    refine gf_8_2 hK rfl (List.mem_of_getElem? (i := 1) rfl) dX8_word_29 ?_
    refine aw_icmp_ge hK 62 rfl dX8_word_32 (fun hc => ?_) (fun hc => ?_)
    · have hF := if_t hF hc
      refine aw_aload_n hK 0 rfl dX8_word_62 ?_
      refine gf_8_15 hK rfl (82) rfl (List.mem_of_getElem? (i := 3) rfl) dX8_word_63 ?_
      refine aw_aload_n hK 0 rfl dX8_word_66 ?_
      refine gf_8_2 hK rfl (List.mem_of_getElem? (i := 1) rfl) dX8_word_67 ?_
      refine aw_iconst hK (1) rfl dX8_word_70 ?_
      obtain ⟨g9, hF⟩ := gd_some hF
      refine aw_zast hK rfl g9 rfl dX8_word_71 ?_
      obtain ⟨m10, hm10, hF⟩ := bnd_some hF
      refine aw_mm hm10 ?_
      refine aw_aload_n hK 0 rfl dX8_word_72 ?_
      refine aw_iconst hK (0) rfl dX8_word_73 ?_
      obtain ⟨r13, m12, h11, hF⟩ := cal_some hF
      refine aw_cv hK 8 (as := [q_i (0 : Int32)]) (tr_X8_trims h11) gX8_word_X8_trims rfl rfl rfl (by decide) (na := 1) (by decide +kernel) rfl ⟨by decide, by decide⟩ (Nat.zero_le _) (Nat.le_of_ble_eq_true rfl) dX8_word_74 ?_
      refine aw_if_eq hK 87 rfl dX8_word_77 (fun hc => ?_) (fun hc => ?_)
      · have hF := if_t hF hc
        refine aw_iconst hK (0) rfl dX8_word_87 ?_
        refine aw_sub [] (lv' := []) rfl ?_
        exact bk_X8_word_88 hK hR hF
      · have hF := if_f hF hc
        refine aw_aload_n hK 0 rfl dX8_word_80 ?_
        obtain ⟨r16, m15, h14, hF⟩ := cal_some hF
        refine aw_cv hK 8 (as := []) (tr_X8_keeps h14) gX8_word_X8_keeps rfl rfl rfl (by decide) (na := 0) (by decide +kernel) rfl ⟨by decide, by decide⟩ (Nat.zero_le _) (Nat.le_of_ble_eq_true rfl) dX8_word_81 ?_
        refine aw_goto hK 88 rfl dX8_word_84 ?_
        refine aw_sub [] (lv' := []) rfl ?_
        exact bk_X8_word_88 hK hR hF
    · have hF := if_f hF hc
      refine aw_aload_n hK 0 rfl dX8_word_35 ?_
      refine aw_iload_n hK 1 rfl dX8_word_36 ?_
      refine aw_aload_n hK 0 rfl dX8_word_37 ?_
      refine gf_8_1 hK rfl (71) rfl (List.mem_of_getElem? (i := 2) rfl) dX8_word_38 ?_
      refine aw_iload_n hK 1 rfl dX8_word_41 ?_
      obtain ⟨g17, hF⟩ := gd_some hF
      refine aw_iald hK rfl g17 dX8_word_42 ?_
      refine aw_aload_n hK 0 rfl dX8_word_43 ?_
      refine gf_8_1 hK rfl (71) rfl (List.mem_of_getElem? (i := 2) rfl) dX8_word_44 ?_
      refine aw_iload_n hK 1 rfl dX8_word_47 ?_
      obtain ⟨g18, hF⟩ := gd_some hF
      refine aw_iald hK rfl g18 dX8_word_48 ?_
      refine aw_iconst hK (0) rfl dX8_word_49 ?_
      refine aw_iload_n hK 1 rfl dX8_word_50 ?_
      refine aw_iconst hK (1) rfl dX8_word_51 ?_
      refine aw_iadd hK dX8_word_52 ?_
      obtain ⟨m20, h19, hF⟩ := calv_some hF
      refine aw_cv hK 8 (as := [q_i x1, q_i (m 71 (ix x1)), q_i (m 71 (ix x1)), q_i (0 : Int32), q_i (x1 + (1 : Int32))]) (tr_X8_adds h19) gX8_word_X8_adds rfl rfl rfl (by decide) (na := 5) (by decide +kernel) rfl ⟨by decide, by decide⟩ (Nat.zero_le _) (Nat.le_of_ble_eq_true rfl) dX8_word_53 ?_
      obtain ⟨y21, hy21, hF⟩ := bnd_some hF
      refine aw_iinc hK (cz := 1) 1 [(1, q_i y21), (0, q_r 70)] (by decide) rfl rfl hy21 rfl dX8_word_56 ?_
      refine aw_goto hK 27 rfl dX8_word_59 ?_
      refine aw_sub [1, 0] (lv' := [(0, q_r 70), (1, q_i y21)]) rfl ?_
      exact hrec_27 hF
def B_X8_word_13 (N : Nat) (m : Mem) (s0 : Int32) : Option (Int32 × Mem) :=
  cal (F_X8_isFine N m s0) fun r6 m5 =>
  if r6 = (0 : Int32) then (
    some ((0 : Int32), m5)
  ) else (
    calv (F_X8_begins N m5) fun m8 =>
    L_X8_word_27 N N m8 (0 : Int32)
  )
set_option maxRecDepth 100000 in
set_option maxHeartbeats 4000000 in
theorem bk_X8_word_13 {N : Nat} {K : KT} {m' : Mem} {r : Int32} (hK : KOK K cX8_word 2 RX8 wsX8_word 3 0 70) (hR : KRet K (some .int) (some r) m') {m : Mem} {s0 : Int32} (hF : B_X8_word_13 N m s0 = some (r, m')) : AW K 0 13 [(0, q_r 70)] [q_i s0, q_r 70] m := by
  unfold B_X8_word_13 at hF
  obtain ⟨r6, m5, h4, hF⟩ := cal_some hF
  refine aw_cv hK 8 (as := [q_i s0]) (tr_X8_isFine h4) gX8_word_X8_isFine rfl rfl rfl (by decide) (na := 1) (by decide +kernel) rfl ⟨by decide, by decide⟩ (Nat.zero_le _) (Nat.le_of_ble_eq_true rfl) dX8_word_13 ?_
  refine aw_if_ne hK 21 rfl dX8_word_16 (fun hc => ?_) (fun hc => ?_)
  · have hF := if_f hF hc
    refine aw_aload_n hK 0 rfl dX8_word_21 ?_
    obtain ⟨m8, h7, hF⟩ := calv_some hF
    refine aw_cv hK 8 (as := []) (tr_X8_begins h7) gX8_word_X8_begins rfl rfl rfl (by decide) (na := 0) (by decide +kernel) rfl ⟨by decide, by decide⟩ (Nat.zero_le _) (Nat.le_of_ble_eq_true rfl) dX8_word_22 ?_
    refine aw_iconst hK (0) rfl dX8_word_25 ?_
    refine aw_istore_n hK [(1, q_i (0 : Int32)), (0, q_r 70)] (by decide) rfl dX8_word_26 ?_
    refine aw_sub [1, 0] (lv' := [(0, q_r 70), (1, q_i (0 : Int32))]) rfl ?_
    exact lp_X8_word_27 hK hR _ hF
  · have hF := if_t hF hc
    refine aw_iconst hK (0) rfl dX8_word_19 ?_
    obtain ⟨rfl, rfl⟩ := so_inj hF
    exact aw_iret hK hR rfl dX8_word_20
def F_X8_word (N : Nat) (m : Mem) : Option (Int32 × Mem) :=
  cal (F_X8_isThere N m) fun r3 m2 =>
  if r3 = (0 : Int32) then (
    B_X8_word_13 N m2 (1 : Int32)
  ) else (
    B_X8_word_13 N m2 (0 : Int32)
  )
set_option maxRecDepth 100000 in
set_option maxHeartbeats 4000000 in
theorem tr_X8_word {N : Nat} {m m' : Mem} {r : Int32} (hF : F_X8_word N m = some (r, m')) : Tr yX8_word wsX8_word 3 70 [q_r 70] m (some r) m' := by
  refine tr_of (bytes := cX8_word) (maxL := 2) (ret := (some .int)) (by decide) rfl (Nat.le_of_ble_eq_true rfl) (fun K hK hR => ?_)
  have hK : KOK K cX8_word 2 RX8 wsX8_word 3 0 70 := hK
  show AW K 0 0 [(0, q_r 70)] [] m
  unfold F_X8_word at hF
  refine aw_aload_n hK 0 rfl dX8_word_0 ?_
  refine aw_aload_n hK 0 rfl dX8_word_1 ?_
  obtain ⟨r3, m2, h1, hF⟩ := cal_some hF
  refine aw_cv hK 8 (as := []) (tr_X8_isThere h1) gX8_word_X8_isThere rfl rfl rfl (by decide) (na := 0) (by decide +kernel) rfl ⟨by decide, by decide⟩ (Nat.zero_le _) (Nat.le_of_ble_eq_true rfl) dX8_word_2 ?_
  refine aw_if_eq hK 12 rfl dX8_word_5 (fun hc => ?_) (fun hc => ?_)
  · have hF := if_t hF hc
    refine aw_iconst hK (1) rfl dX8_word_12 ?_
    refine aw_sub [0] (lv' := [(0, q_r 70)]) rfl ?_
    exact bk_X8_word_13 hK hR hF
  · have hF := if_f hF hc
    refine aw_iconst hK (0) rfl dX8_word_8 ?_
    refine aw_goto hK 13 rfl dX8_word_9 ?_
    refine aw_sub [0] (lv' := [(0, q_r 70)]) rfl ?_
    exact bk_X8_word_13 hK hR hF
def B_X8_any_71 (N : Nat) (m : Mem) (s0 : Int32) : Option (Int32 × Mem) :=
  some (s0, m)
set_option maxRecDepth 100000 in
set_option maxHeartbeats 4000000 in
theorem bk_X8_any_71 {N : Nat} {K : KT} {m' : Mem} {r : Int32} (hK : KOK K cX8_any 2 RX8 wsX8_any 3 0 70) (hR : KRet K (some .int) (some r) m') {m : Mem} {s0 : Int32} (hF : B_X8_any_71 N m s0 = some (r, m')) : AW K 0 71 [] [q_i s0] m := by
  unfold B_X8_any_71 at hF
  obtain ⟨rfl, rfl⟩ := so_inj hF
  exact aw_iret hK hR rfl dX8_any_71
def S_X8_any_27 (N : Nat) (rec_27 : Mem → Int32 → Option (Int32 × Mem)) (m : Mem) (x1 : Int32) : Option (Int32 × Mem) :=
  if (8 : Int32) ≤ x1 then (
    gd (inb (1 : Int32) (alen 82)) <|
    bnd (mup m 82 (ix (1 : Int32)) (1 : Int32)) fun m10 =>
    cal (F_X8_trims N m10 (0 : Int32)) fun r13 m12 =>
    if r13 = (0 : Int32) then (
      B_X8_any_71 N m12 (0 : Int32)
    ) else (
      cal (F_X8_keeps N m12) fun r16 m15 =>
      B_X8_any_71 N m15 r16
    )
  ) else (
    calv (F_X8_adds N m (0 : Int32) x1 x1 (0 : Int32) (1 : Int32)) fun m18 =>
    bnd (x1 + (1 : Int32)) fun y19 =>
    rec_27 m18 y19
  )
def L_X8_any_27 (N : Nat) : Nat → Mem → Int32 → Option (Int32 × Mem)
  | 0 => fun _ _ => none
  | f + 1 => S_X8_any_27 N (L_X8_any_27 N f)
set_option maxRecDepth 100000 in
set_option maxHeartbeats 4000000 in
theorem lp_X8_any_27 {N : Nat} {K : KT} {m' : Mem} {r : Int32} (hK : KOK K cX8_any 2 RX8 wsX8_any 3 0 70) (hR : KRet K (some .int) (some r) m') : ∀ (f : Nat) {m : Mem} {x1 : Int32}, L_X8_any_27 N f m x1 = some (r, m') → AW K 0 27 [(0, q_r 70), (1, q_i x1)] [] m := by
  intro f
  induction f with
  | zero => intro m x1 hF; cases hF
  | succ f hrec_27 =>
    intro m x1 hF
    have hF : S_X8_any_27 N (L_X8_any_27 N f) m x1 = some (r, m') := hF
    unfold S_X8_any_27 at hF
    refine aw_iload_n hK 1 rfl dX8_any_27 ?_
    refine aw_bipush hK (8) rfl dX8_any_28 ?_
    refine aw_icmp_ge hK 48 rfl dX8_any_30 (fun hc => ?_) (fun hc => ?_)
    · have hF := if_t hF hc
      refine aw_aload_n hK 0 rfl dX8_any_48 ?_
      refine gf_8_15 hK rfl (82) rfl (List.mem_of_getElem? (i := 1) rfl) dX8_any_49 ?_
      refine aw_iconst hK (1) rfl dX8_any_52 ?_
      refine aw_iconst hK (1) rfl dX8_any_53 ?_
      obtain ⟨g9, hF⟩ := gd_some hF
      refine aw_zast hK rfl g9 rfl dX8_any_54 ?_
      obtain ⟨m10, hm10, hF⟩ := bnd_some hF
      refine aw_mm hm10 ?_
      refine aw_aload_n hK 0 rfl dX8_any_55 ?_
      refine aw_iconst hK (0) rfl dX8_any_56 ?_
      obtain ⟨r13, m12, h11, hF⟩ := cal_some hF
      refine aw_cv hK 8 (as := [q_i (0 : Int32)]) (tr_X8_trims h11) gX8_any_X8_trims rfl rfl rfl (by decide) (na := 1) (by decide +kernel) rfl ⟨by decide, by decide⟩ (Nat.zero_le _) (Nat.le_of_ble_eq_true rfl) dX8_any_57 ?_
      refine aw_if_eq hK 70 rfl dX8_any_60 (fun hc => ?_) (fun hc => ?_)
      · have hF := if_t hF hc
        refine aw_iconst hK (0) rfl dX8_any_70 ?_
        refine aw_sub [] (lv' := []) rfl ?_
        exact bk_X8_any_71 hK hR hF
      · have hF := if_f hF hc
        refine aw_aload_n hK 0 rfl dX8_any_63 ?_
        obtain ⟨r16, m15, h14, hF⟩ := cal_some hF
        refine aw_cv hK 8 (as := []) (tr_X8_keeps h14) gX8_any_X8_keeps rfl rfl rfl (by decide) (na := 0) (by decide +kernel) rfl ⟨by decide, by decide⟩ (Nat.zero_le _) (Nat.le_of_ble_eq_true rfl) dX8_any_64 ?_
        refine aw_goto hK 71 rfl dX8_any_67 ?_
        refine aw_sub [] (lv' := []) rfl ?_
        exact bk_X8_any_71 hK hR hF
    · have hF := if_f hF hc
      refine aw_aload_n hK 0 rfl dX8_any_33 ?_
      refine aw_iconst hK (0) rfl dX8_any_34 ?_
      refine aw_iload_n hK 1 rfl dX8_any_35 ?_
      refine aw_iload_n hK 1 rfl dX8_any_36 ?_
      refine aw_iconst hK (0) rfl dX8_any_37 ?_
      refine aw_iconst hK (1) rfl dX8_any_38 ?_
      obtain ⟨m18, h17, hF⟩ := calv_some hF
      refine aw_cv hK 8 (as := [q_i (0 : Int32), q_i x1, q_i x1, q_i (0 : Int32), q_i (1 : Int32)]) (tr_X8_adds h17) gX8_any_X8_adds rfl rfl rfl (by decide) (na := 5) (by decide +kernel) rfl ⟨by decide, by decide⟩ (Nat.zero_le _) (Nat.le_of_ble_eq_true rfl) dX8_any_39 ?_
      obtain ⟨y19, hy19, hF⟩ := bnd_some hF
      refine aw_iinc hK (cz := 1) 1 [(1, q_i y19), (0, q_r 70)] (by decide) rfl rfl hy19 rfl dX8_any_42 ?_
      refine aw_goto hK 27 rfl dX8_any_45 ?_
      refine aw_sub [1, 0] (lv' := [(0, q_r 70), (1, q_i y19)]) rfl ?_
      exact hrec_27 hF
def B_X8_any_13 (N : Nat) (m : Mem) (s0 : Int32) : Option (Int32 × Mem) :=
  cal (F_X8_isFine N m s0) fun r6 m5 =>
  if r6 = (0 : Int32) then (
    some ((0 : Int32), m5)
  ) else (
    calv (F_X8_begins N m5) fun m8 =>
    L_X8_any_27 N N m8 (0 : Int32)
  )
set_option maxRecDepth 100000 in
set_option maxHeartbeats 4000000 in
theorem bk_X8_any_13 {N : Nat} {K : KT} {m' : Mem} {r : Int32} (hK : KOK K cX8_any 2 RX8 wsX8_any 3 0 70) (hR : KRet K (some .int) (some r) m') {m : Mem} {s0 : Int32} (hF : B_X8_any_13 N m s0 = some (r, m')) : AW K 0 13 [(0, q_r 70)] [q_i s0, q_r 70] m := by
  unfold B_X8_any_13 at hF
  obtain ⟨r6, m5, h4, hF⟩ := cal_some hF
  refine aw_cv hK 8 (as := [q_i s0]) (tr_X8_isFine h4) gX8_any_X8_isFine rfl rfl rfl (by decide) (na := 1) (by decide +kernel) rfl ⟨by decide, by decide⟩ (Nat.zero_le _) (Nat.le_of_ble_eq_true rfl) dX8_any_13 ?_
  refine aw_if_ne hK 21 rfl dX8_any_16 (fun hc => ?_) (fun hc => ?_)
  · have hF := if_f hF hc
    refine aw_aload_n hK 0 rfl dX8_any_21 ?_
    obtain ⟨m8, h7, hF⟩ := calv_some hF
    refine aw_cv hK 8 (as := []) (tr_X8_begins h7) gX8_any_X8_begins rfl rfl rfl (by decide) (na := 0) (by decide +kernel) rfl ⟨by decide, by decide⟩ (Nat.zero_le _) (Nat.le_of_ble_eq_true rfl) dX8_any_22 ?_
    refine aw_iconst hK (0) rfl dX8_any_25 ?_
    refine aw_istore_n hK [(1, q_i (0 : Int32)), (0, q_r 70)] (by decide) rfl dX8_any_26 ?_
    refine aw_sub [1, 0] (lv' := [(0, q_r 70), (1, q_i (0 : Int32))]) rfl ?_
    exact lp_X8_any_27 hK hR _ hF
  · have hF := if_t hF hc
    refine aw_iconst hK (0) rfl dX8_any_19 ?_
    obtain ⟨rfl, rfl⟩ := so_inj hF
    exact aw_iret hK hR rfl dX8_any_20
def F_X8_any (N : Nat) (m : Mem) : Option (Int32 × Mem) :=
  cal (F_X8_isThere N m) fun r3 m2 =>
  if r3 = (0 : Int32) then (
    B_X8_any_13 N m2 (1 : Int32)
  ) else (
    B_X8_any_13 N m2 (0 : Int32)
  )
set_option maxRecDepth 100000 in
set_option maxHeartbeats 4000000 in
theorem tr_X8_any {N : Nat} {m m' : Mem} {r : Int32} (hF : F_X8_any N m = some (r, m')) : Tr yX8_any wsX8_any 3 70 [q_r 70] m (some r) m' := by
  refine tr_of (bytes := cX8_any) (maxL := 2) (ret := (some .int)) (by decide) rfl (Nat.le_of_ble_eq_true rfl) (fun K hK hR => ?_)
  have hK : KOK K cX8_any 2 RX8 wsX8_any 3 0 70 := hK
  show AW K 0 0 [(0, q_r 70)] [] m
  unfold F_X8_any at hF
  refine aw_aload_n hK 0 rfl dX8_any_0 ?_
  refine aw_aload_n hK 0 rfl dX8_any_1 ?_
  obtain ⟨r3, m2, h1, hF⟩ := cal_some hF
  refine aw_cv hK 8 (as := []) (tr_X8_isThere h1) gX8_any_X8_isThere rfl rfl rfl (by decide) (na := 0) (by decide +kernel) rfl ⟨by decide, by decide⟩ (Nat.zero_le _) (Nat.le_of_ble_eq_true rfl) dX8_any_2 ?_
  refine aw_if_eq hK 12 rfl dX8_any_5 (fun hc => ?_) (fun hc => ?_)
  · have hF := if_t hF hc
    refine aw_iconst hK (1) rfl dX8_any_12 ?_
    refine aw_sub [0] (lv' := [(0, q_r 70)]) rfl ?_
    exact bk_X8_any_13 hK hR hF
  · have hF := if_f hF hc
    refine aw_iconst hK (0) rfl dX8_any_8 ?_
    refine aw_goto hK 13 rfl dX8_any_9 ?_
    refine aw_sub [0] (lv' := [(0, q_r 70)]) rfl ?_
    exact bk_X8_any_13 hK hR hF
def S_X8_joins_66 (N : Nat) (rec_66 : Mem → Int32 → Int32 → Int32 → Option (Int32 × Mem)) (m : Mem) (x1 : Int32) (x2 : Int32) (x3 : Int32) : Option (Int32 × Mem) :=
  gd (inb x2 (alen 72)) <|
  if (m 72 (ix x2)) ≤ x3 then (
    cal (F_X8_trims N m (0 : Int32)) fun r19 m18 =>
    gd (isb r19) <|
    some (r19, m18)
  ) else (
    gd (inb x1 (alen 72)) <|
    cal (F_X8_isEndOf N m x2 x3) fun r24 m23 =>
    gd (inb ((m 72 (ix x1)) + x3) (alen 82)) <|
    gd (isb r24) <|
    bnd (mup m23 82 (ix ((m 72 (ix x1)) + x3)) r24) fun m27 =>
    bnd (x3 + (1 : Int32)) fun y28 =>
    rec_66 m27 x1 x2 y28
  )
def L_X8_joins_66 (N : Nat) : Nat → Mem → Int32 → Int32 → Int32 → Option (Int32 × Mem)
  | 0 => fun _ _ _ _ => none
  | f + 1 => S_X8_joins_66 N (L_X8_joins_66 N f)
set_option maxRecDepth 100000 in
set_option maxHeartbeats 4000000 in
theorem lp_X8_joins_66 {N : Nat} {K : KT} {m' : Mem} {r : Int32} (hK : KOK K cX8_joins 4 RX8 wsX8_joins 3 0 70) (hR : KRet K (some .boolean) (some r) m') : ∀ (f : Nat) {m : Mem} {x1 : Int32} {x2 : Int32} {x3 : Int32}, L_X8_joins_66 N f m x1 x2 x3 = some (r, m') → AW K 0 66 [(0, q_r 70), (1, q_i x1), (2, q_i x2), (3, q_i x3)] [] m := by
  intro f
  induction f with
  | zero => intro m x1 x2 x3 hF; cases hF
  | succ f hrec_66 =>
    intro m x1 x2 x3 hF
    have hF : S_X8_joins_66 N (L_X8_joins_66 N f) m x1 x2 x3 = some (r, m') := hF
    unfold S_X8_joins_66 at hF
    refine aw_iload_n hK 3 rfl dX8_joins_66 ?_
    refine aw_aload_n hK 0 rfl dX8_joins_67 ?_
    refine gf_8_3 hK rfl (72) rfl (List.mem_of_getElem? (i := 1) rfl) dX8_joins_68 ?_
    refine aw_iload_n hK 2 rfl dX8_joins_71 ?_
    obtain ⟨g16, hF⟩ := gd_some hF
    refine aw_iald hK rfl g16 dX8_joins_72 ?_
    refine aw_icmp_ge hK 101 rfl dX8_joins_73 (fun hc => ?_) (fun hc => ?_)
    · have hF := if_t hF hc
      refine aw_aload_n hK 0 rfl dX8_joins_101 ?_
      refine aw_iconst hK (0) rfl dX8_joins_102 ?_
      obtain ⟨r19, m18, h17, hF⟩ := cal_some hF
      refine aw_cv hK 8 (as := [q_i (0 : Int32)]) (tr_X8_trims h17) gX8_joins_X8_trims rfl rfl rfl (by decide) (na := 1) (by decide +kernel) rfl ⟨by decide, by decide⟩ (Nat.zero_le _) (Nat.le_of_ble_eq_true rfl) dX8_joins_103 ?_
      obtain ⟨g20, hF⟩ := gd_some hF
      obtain ⟨rfl, rfl⟩ := so_inj hF
      exact aw_iret hK hR (isb_narrow g20) dX8_joins_106
    · have hF := if_f hF hc
      refine aw_aload_n hK 0 rfl dX8_joins_76 ?_
      refine gf_8_15 hK rfl (82) rfl (List.mem_of_getElem? (i := 2) rfl) dX8_joins_77 ?_
      refine aw_aload_n hK 0 rfl dX8_joins_80 ?_
      refine gf_8_3 hK rfl (72) rfl (List.mem_of_getElem? (i := 1) rfl) dX8_joins_81 ?_
      refine aw_iload_n hK 1 rfl dX8_joins_84 ?_
      obtain ⟨g21, hF⟩ := gd_some hF
      refine aw_iald hK rfl g21 dX8_joins_85 ?_
      refine aw_iload_n hK 3 rfl dX8_joins_86 ?_
      refine aw_iadd hK dX8_joins_87 ?_
      refine aw_aload_n hK 0 rfl dX8_joins_88 ?_
      refine aw_iload_n hK 2 rfl dX8_joins_89 ?_
      refine aw_iload_n hK 3 rfl dX8_joins_90 ?_
      obtain ⟨r24, m23, h22, hF⟩ := cal_some hF
      refine aw_cv hK 8 (as := [q_i x2, q_i x3]) (tr_X8_isEndOf h22) gX8_joins_X8_isEndOf rfl rfl rfl (by decide) (na := 2) (by decide +kernel) rfl ⟨by decide, by decide⟩ (Nat.zero_le _) (Nat.le_of_ble_eq_true rfl) dX8_joins_91 ?_
      obtain ⟨g25, hF⟩ := gd_some hF
      obtain ⟨g26, hF⟩ := gd_some hF
      refine aw_zast hK rfl g25 g26 dX8_joins_94 ?_
      obtain ⟨m27, hm27, hF⟩ := bnd_some hF
      refine aw_mm hm27 ?_
      obtain ⟨y28, hy28, hF⟩ := bnd_some hF
      refine aw_iinc hK (cz := 1) 3 [(3, q_i y28), (0, q_r 70), (1, q_i x1), (2, q_i x2)] (by decide) rfl rfl hy28 rfl dX8_joins_95 ?_
      refine aw_goto hK 66 rfl dX8_joins_98 ?_
      refine aw_sub [1, 2, 3, 0] (lv' := [(0, q_r 70), (1, q_i x1), (2, q_i x2), (3, q_i y28)]) rfl ?_
      exact hrec_66 hF
def B_X8_joins_58 (N : Nat) (rec_23 : Mem → Int32 → Int32 → Int32 → Option (Int32 × Mem)) (m : Mem) (x1 : Int32) (x2 : Int32) (x3 : Int32) : Option (Int32 × Mem) :=
  bnd (x3 + (1 : Int32)) fun y15 =>
  rec_23 m x1 x2 y15
set_option maxRecDepth 100000 in
set_option maxHeartbeats 4000000 in
theorem bk_X8_joins_58 {N : Nat} {K : KT} {m' : Mem} {rec_23 : Mem → Int32 → Int32 → Int32 → Option (Int32 × Mem)} {r : Int32} (hK : KOK K cX8_joins 4 RX8 wsX8_joins 3 0 70) (hR : KRet K (some .boolean) (some r) m') (hrec_23 : ∀ {m : Mem} {x1 : Int32} {x2 : Int32} {x3 : Int32}, rec_23 m x1 x2 x3 = some (r, m') → AW K 0 23 [(0, q_r 70), (1, q_i x1), (2, q_i x2), (3, q_i x3)] [] m) {m : Mem} {x1 : Int32} {x2 : Int32} {x3 : Int32} (hF : B_X8_joins_58 N rec_23 m x1 x2 x3 = some (r, m')) : AW K 0 58 [(0, q_r 70), (1, q_i x1), (2, q_i x2), (3, q_i x3)] [] m := by
  unfold B_X8_joins_58 at hF
  obtain ⟨y15, hy15, hF⟩ := bnd_some hF
  refine aw_iinc hK (cz := 1) 3 [(3, q_i y15), (0, q_r 70), (1, q_i x1), (2, q_i x2)] (by decide) rfl rfl hy15 rfl dX8_joins_58 ?_
  refine aw_goto hK 23 rfl dX8_joins_61 ?_
  refine aw_sub [1, 2, 3, 0] (lv' := [(0, q_r 70), (1, q_i x1), (2, q_i x2), (3, q_i y15)]) rfl ?_
  exact hrec_23 hF
def S_X8_joins_23 (N : Nat) (rec_23 : Mem → Int32 → Int32 → Int32 → Option (Int32 × Mem)) (m : Mem) (x1 : Int32) (x2 : Int32) (x3 : Int32) : Option (Int32 × Mem) :=
  gd (inb x1 (alen 72)) <|
  if (m 72 (ix x1)) ≤ x3 then (
    L_X8_joins_66 N N m x1 x2 (0 : Int32)
  ) else (
    cal (F_X8_isEndOf N m x1 x3) fun r11 m10 =>
    if r11 = (0 : Int32) then (
      B_X8_joins_58 N rec_23 m10 x1 x2 x3
    ) else (
      gd (inb x1 (alen 72)) <|
      calv (F_X8_adds N m10 x3 (8 : Int32) (8 : Int32) (0 : Int32) (m10 72 (ix x1))) fun m14 =>
      B_X8_joins_58 N rec_23 m14 x1 x2 x3
    )
  )
def L_X8_joins_23 (N : Nat) : Nat → Mem → Int32 → Int32 → Int32 → Option (Int32 × Mem)
  | 0 => fun _ _ _ _ => none
  | f + 1 => S_X8_joins_23 N (L_X8_joins_23 N f)
set_option maxRecDepth 100000 in
set_option maxHeartbeats 4000000 in
theorem lp_X8_joins_23 {N : Nat} {K : KT} {m' : Mem} {r : Int32} (hK : KOK K cX8_joins 4 RX8 wsX8_joins 3 0 70) (hR : KRet K (some .boolean) (some r) m') : ∀ (f : Nat) {m : Mem} {x1 : Int32} {x2 : Int32} {x3 : Int32}, L_X8_joins_23 N f m x1 x2 x3 = some (r, m') → AW K 0 23 [(0, q_r 70), (1, q_i x1), (2, q_i x2), (3, q_i x3)] [] m := by
  intro f
  induction f with
  | zero => intro m x1 x2 x3 hF; cases hF
  | succ f hrec_23 =>
    intro m x1 x2 x3 hF
    have hF : S_X8_joins_23 N (L_X8_joins_23 N f) m x1 x2 x3 = some (r, m') := hF
    unfold S_X8_joins_23 at hF
    refine aw_iload_n hK 3 rfl dX8_joins_23 ?_
    refine aw_aload_n hK 0 rfl dX8_joins_24 ?_
    refine gf_8_3 hK rfl (72) rfl (List.mem_of_getElem? (i := 1) rfl) dX8_joins_25 ?_
    refine aw_iload_n hK 1 rfl dX8_joins_28 ?_
    obtain ⟨g8, hF⟩ := gd_some hF
    refine aw_iald hK rfl g8 dX8_joins_29 ?_
    refine aw_icmp_ge hK 64 rfl dX8_joins_30 (fun hc => ?_) (fun hc => ?_)
    · have hF := if_t hF hc
      refine aw_iconst hK (0) rfl dX8_joins_64 ?_
      refine aw_istore_n hK [(3, q_i (0 : Int32)), (0, q_r 70), (1, q_i x1), (2, q_i x2)] (by decide) rfl dX8_joins_65 ?_
      refine aw_sub [1, 2, 3, 0] (lv' := [(0, q_r 70), (1, q_i x1), (2, q_i x2), (3, q_i (0 : Int32))]) rfl ?_
      exact lp_X8_joins_66 hK hR _ hF
    · have hF := if_f hF hc
      refine aw_aload_n hK 0 rfl dX8_joins_33 ?_
      refine aw_iload_n hK 1 rfl dX8_joins_34 ?_
      refine aw_iload_n hK 3 rfl dX8_joins_35 ?_
      obtain ⟨r11, m10, h9, hF⟩ := cal_some hF
      refine aw_cv hK 8 (as := [q_i x1, q_i x3]) (tr_X8_isEndOf h9) gX8_joins_X8_isEndOf rfl rfl rfl (by decide) (na := 2) (by decide +kernel) rfl ⟨by decide, by decide⟩ (Nat.zero_le _) (Nat.le_of_ble_eq_true rfl) dX8_joins_36 ?_
      refine aw_if_eq hK 58 rfl dX8_joins_39 (fun hc => ?_) (fun hc => ?_)
      · have hF := if_t hF hc
        refine aw_sub [0, 1, 2, 3] (lv' := [(0, q_r 70), (1, q_i x1), (2, q_i x2), (3, q_i x3)]) rfl ?_
        exact bk_X8_joins_58 hK hR hrec_23 hF
      · have hF := if_f hF hc
        refine aw_aload_n hK 0 rfl dX8_joins_42 ?_
        refine aw_iload_n hK 3 rfl dX8_joins_43 ?_
        refine aw_bipush hK (8) rfl dX8_joins_44 ?_
        refine aw_bipush hK (8) rfl dX8_joins_46 ?_
        refine aw_iconst hK (0) rfl dX8_joins_48 ?_
        refine aw_aload_n hK 0 rfl dX8_joins_49 ?_
        refine gf_8_3 hK rfl (72) rfl (List.mem_of_getElem? (i := 1) rfl) dX8_joins_50 ?_
        refine aw_iload_n hK 1 rfl dX8_joins_53 ?_
        obtain ⟨g12, hF⟩ := gd_some hF
        refine aw_iald hK rfl g12 dX8_joins_54 ?_
        obtain ⟨m14, h13, hF⟩ := calv_some hF
        refine aw_cv hK 8 (as := [q_i x3, q_i (8 : Int32), q_i (8 : Int32), q_i (0 : Int32), q_i (m10 72 (ix x1))]) (tr_X8_adds h13) gX8_joins_X8_adds rfl rfl rfl (by decide) (na := 5) (by decide +kernel) rfl ⟨by decide, by decide⟩ (Nat.zero_le _) (Nat.le_of_ble_eq_true rfl) dX8_joins_55 ?_
        refine aw_sub [0, 1, 2, 3] (lv' := [(0, q_r 70), (1, q_i x1), (2, q_i x2), (3, q_i x3)]) rfl ?_
        exact bk_X8_joins_58 hK hR hrec_23 hF
def F_X8_joins (N : Nat) (m : Mem) (x1 : Int32) (x2 : Int32) : Option (Int32 × Mem) :=
  calv (F_X8_begins N m) fun m2 =>
  calv (F_X8_puts N m2 x1 (0 : Int32)) fun m4 =>
  gd (inb x1 (alen 72)) <|
  calv (F_X8_puts N m4 x2 (m4 72 (ix x1))) fun m7 =>
  L_X8_joins_23 N N m7 x1 x2 (0 : Int32)
set_option maxRecDepth 100000 in
set_option maxHeartbeats 4000000 in
theorem tr_X8_joins {N : Nat} {m m' : Mem} {r : Int32} {x1 : Int32} {x2 : Int32} (hF : F_X8_joins N m x1 x2 = some (r, m')) : Tr yX8_joins wsX8_joins 3 70 [q_r 70, q_i x1, q_i x2] m (some r) m' := by
  refine tr_of (bytes := cX8_joins) (maxL := 4) (ret := (some .boolean)) (by decide) rfl (Nat.le_of_ble_eq_true rfl) (fun K hK hR => ?_)
  have hK : KOK K cX8_joins 4 RX8 wsX8_joins 3 0 70 := hK
  show AW K 0 0 [(0, q_r 70), (1, q_i x1), (2, q_i x2)] [] m
  unfold F_X8_joins at hF
  refine aw_aload_n hK 0 rfl dX8_joins_0 ?_
  obtain ⟨m2, h1, hF⟩ := calv_some hF
  refine aw_cv hK 8 (as := []) (tr_X8_begins h1) gX8_joins_X8_begins rfl rfl rfl (by decide) (na := 0) (by decide +kernel) rfl ⟨by decide, by decide⟩ (Nat.zero_le _) (Nat.le_of_ble_eq_true rfl) dX8_joins_1 ?_
  refine aw_aload_n hK 0 rfl dX8_joins_4 ?_
  refine aw_iload_n hK 1 rfl dX8_joins_5 ?_
  refine aw_iconst hK (0) rfl dX8_joins_6 ?_
  obtain ⟨m4, h3, hF⟩ := calv_some hF
  refine aw_cv hK 8 (as := [q_i x1, q_i (0 : Int32)]) (tr_X8_puts h3) gX8_joins_X8_puts rfl rfl rfl (by decide) (na := 2) (by decide +kernel) rfl ⟨by decide, by decide⟩ (Nat.zero_le _) (Nat.le_of_ble_eq_true rfl) dX8_joins_7 ?_
  refine aw_aload_n hK 0 rfl dX8_joins_10 ?_
  refine aw_iload_n hK 2 rfl dX8_joins_11 ?_
  refine aw_aload_n hK 0 rfl dX8_joins_12 ?_
  refine gf_8_3 hK rfl (72) rfl (List.mem_of_getElem? (i := 1) rfl) dX8_joins_13 ?_
  refine aw_iload_n hK 1 rfl dX8_joins_16 ?_
  obtain ⟨g5, hF⟩ := gd_some hF
  refine aw_iald hK rfl g5 dX8_joins_17 ?_
  obtain ⟨m7, h6, hF⟩ := calv_some hF
  refine aw_cv hK 8 (as := [q_i x2, q_i (m4 72 (ix x1))]) (tr_X8_puts h6) gX8_joins_X8_puts rfl rfl rfl (by decide) (na := 2) (by decide +kernel) rfl ⟨by decide, by decide⟩ (Nat.zero_le _) (Nat.le_of_ble_eq_true rfl) dX8_joins_18 ?_
  refine aw_iconst hK (0) rfl dX8_joins_21 ?_
  refine aw_istore_n hK [(3, q_i (0 : Int32)), (0, q_r 70), (1, q_i x1), (2, q_i x2)] (by decide) rfl dX8_joins_22 ?_
  refine aw_sub [1, 2, 3, 0] (lv' := [(0, q_r 70), (1, q_i x1), (2, q_i x2), (3, q_i (0 : Int32))]) rfl ?_
  exact lp_X8_joins_23 hK hR _ hF
def B_X8_join_52 (N : Nat) (m : Mem) (s0 : Int32) : Option (Int32 × Mem) :=
  cal (F_X8_isFine N m s0) fun r15 m14 =>
  if r15 = (0 : Int32) then (
    some ((0 : Int32), m14)
  ) else (
    cal (F_X8_keeps N m14) fun r18 m17 =>
    some (r18, m17)
  )
set_option maxRecDepth 100000 in
set_option maxHeartbeats 4000000 in
theorem bk_X8_join_52 {N : Nat} {K : KT} {m' : Mem} {r : Int32} (hK : KOK K cX8_join 4 RX8 wsX8_join 4 0 93) (hR : KRet K (some .int) (some r) m') {m : Mem} {s0 : Int32} (hF : B_X8_join_52 N m s0 = some (r, m')) : AW K 0 52 [(0, q_r 70)] [q_i s0, q_r 70] m := by
  unfold B_X8_join_52 at hF
  obtain ⟨r15, m14, h13, hF⟩ := cal_some hF
  refine aw_cv hK 8 (as := [q_i s0]) (tr_X8_isFine h13) gX8_join_X8_isFine rfl rfl rfl (by decide) (na := 1) (by decide +kernel) rfl ⟨by decide, by decide⟩ (Nat.zero_le _) (Nat.le_of_ble_eq_true rfl) dX8_join_52 ?_
  refine aw_if_ne hK 60 rfl dX8_join_55 (fun hc => ?_) (fun hc => ?_)
  · have hF := if_f hF hc
    refine aw_aload_n hK 0 rfl dX8_join_60 ?_
    obtain ⟨r18, m17, h16, hF⟩ := cal_some hF
    refine aw_cv hK 8 (as := []) (tr_X8_keeps h16) gX8_join_X8_keeps rfl rfl rfl (by decide) (na := 0) (by decide +kernel) rfl ⟨by decide, by decide⟩ (Nat.zero_le _) (Nat.le_of_ble_eq_true rfl) dX8_join_61 ?_
    obtain ⟨rfl, rfl⟩ := so_inj hF
    exact aw_iret hK hR rfl dX8_join_64
  · have hF := if_t hF hc
    refine aw_iconst hK (0) rfl dX8_join_58 ?_
    obtain ⟨rfl, rfl⟩ := so_inj hF
    exact aw_iret hK hR rfl dX8_join_59
def B_X8_join_47 (N : Nat) (m : Mem) : Option (Int32 × Mem) :=
  B_X8_join_52 N m (2 : Int32)
set_option maxRecDepth 100000 in
set_option maxHeartbeats 4000000 in
theorem bk_X8_join_47 {N : Nat} {K : KT} {m' : Mem} {r : Int32} (hK : KOK K cX8_join 4 RX8 wsX8_join 4 0 93) (hR : KRet K (some .int) (some r) m') {m : Mem} (hF : B_X8_join_47 N m = some (r, m')) : AW K 0 47 [(0, q_r 70)] [q_r 70] m := by
  unfold B_X8_join_47 at hF
  refine aw_iconst hK (2) rfl dX8_join_47 ?_
  refine aw_goto hK 52 rfl dX8_join_48 ?_
  refine aw_sub [0] (lv' := [(0, q_r 70)]) rfl ?_
  exact bk_X8_join_52 hK hR hF
def B_X8_join_21 (N : Nat) (m : Mem) (x1 : Int32) (x2 : Int32) (s0 : Int32) : Option (Int32 × Mem) :=
  if s0 = (0 : Int32) then (
    B_X8_join_52 N m (1 : Int32)
  ) else (
    cal (F_X8_isThere N m) fun r9 m8 =>
    if r9 = (0 : Int32) then (
      B_X8_join_47 N m8
    ) else (
      cal (F_X8_joins N m8 x1 x2) fun r12 m11 =>
      if r12 = (0 : Int32) then (
        B_X8_join_47 N m11
      ) else (
        B_X8_join_52 N m11 (0 : Int32)
      )
    )
  )
set_option maxRecDepth 100000 in
set_option maxHeartbeats 4000000 in
theorem bk_X8_join_21 {N : Nat} {K : KT} {m' : Mem} {r : Int32} (hK : KOK K cX8_join 4 RX8 wsX8_join 4 0 93) (hR : KRet K (some .int) (some r) m') {m : Mem} {x1 : Int32} {x2 : Int32} {s0 : Int32} (hF : B_X8_join_21 N m x1 x2 s0 = some (r, m')) : AW K 0 21 [(0, q_r 70), (1, q_i x1), (2, q_i x2)] [q_i s0] m := by
  unfold B_X8_join_21 at hF
  refine aw_istore_n hK [(3, q_i s0), (0, q_r 70), (1, q_i x1), (2, q_i x2)] (by decide) rfl dX8_join_21 ?_
  refine aw_aload_n hK 1 rfl dX8_join_22 ?_
  refine aw_iload_n hK 0 rfl dX8_join_23 ?_
  refine aw_if_ne hK 31 rfl dX8_join_24 (fun hc => ?_) (fun hc => ?_)
  · have hF := if_f hF hc
    refine aw_aload_n hK 1 rfl dX8_join_31 ?_
    obtain ⟨r9, m8, h7, hF⟩ := cal_some hF
    refine aw_cv hK 8 (as := []) (tr_X8_isThere h7) gX8_join_X8_isThere rfl rfl rfl (by decide) (na := 0) (by decide +kernel) rfl ⟨by decide, by decide⟩ (Nat.zero_le _) (Nat.le_of_ble_eq_true rfl) dX8_join_32 ?_
    refine aw_if_eq hK 47 rfl dX8_join_35 (fun hc => ?_) (fun hc => ?_)
    · have hF := if_t hF hc
      refine aw_sub [1] (lv' := [(0, q_r 70)]) rfl ?_
      exact bk_X8_join_47 hK hR hF
    · have hF := if_f hF hc
      refine aw_aload_n hK 1 rfl dX8_join_38 ?_
      refine aw_iload_n hK 2 rfl dX8_join_39 ?_
      refine aw_iload_n hK 3 rfl dX8_join_40 ?_
      obtain ⟨r12, m11, h10, hF⟩ := cal_some hF
      refine aw_cv hK 8 (as := [q_i x1, q_i x2]) (tr_X8_joins h10) gX8_join_X8_joins rfl rfl rfl (by decide) (na := 2) (by decide +kernel) rfl ⟨by decide, by decide⟩ (Nat.zero_le _) (Nat.le_of_ble_eq_true rfl) dX8_join_41 ?_
      refine aw_if_ne hK 51 rfl dX8_join_44 (fun hc => ?_) (fun hc => ?_)
      · have hF := if_f hF hc
        refine aw_iconst hK (0) rfl dX8_join_51 ?_
        refine aw_sub [1] (lv' := [(0, q_r 70)]) rfl ?_
        exact bk_X8_join_52 hK hR hF
      · have hF := if_t hF hc
        refine aw_sub [1] (lv' := [(0, q_r 70)]) rfl ?_
        exact bk_X8_join_47 hK hR hF
  · have hF := if_t hF hc
    refine aw_iconst hK (1) rfl dX8_join_27 ?_
    refine aw_goto hK 52 rfl dX8_join_28 ?_
    refine aw_sub [1] (lv' := [(0, q_r 70)]) rfl ?_
    exact bk_X8_join_52 hK hR hF
def B_X8_join_20 (N : Nat) (m : Mem) (x1 : Int32) (x2 : Int32) : Option (Int32 × Mem) :=
  B_X8_join_21 N m x1 x2 (0 : Int32)
set_option maxRecDepth 100000 in
set_option maxHeartbeats 4000000 in
theorem bk_X8_join_20 {N : Nat} {K : KT} {m' : Mem} {r : Int32} (hK : KOK K cX8_join 4 RX8 wsX8_join 4 0 93) (hR : KRet K (some .int) (some r) m') {m : Mem} {x1 : Int32} {x2 : Int32} (hF : B_X8_join_20 N m x1 x2 = some (r, m')) : AW K 0 20 [(0, q_r 70), (1, q_i x1), (2, q_i x2)] [] m := by
  unfold B_X8_join_20 at hF
  refine aw_iconst hK (0) rfl dX8_join_20 ?_
  refine aw_sub [0, 1, 2] (lv' := [(0, q_r 70), (1, q_i x1), (2, q_i x2)]) rfl ?_
  exact bk_X8_join_21 hK hR hF
def F_X8_join (N : Nat) (m : Mem) (x1 : Int32) (x2 : Int32) : Option (Int32 × Mem) :=
  cal (F_X8_isMachine N m x1) fun r3 m2 =>
  if r3 = (0 : Int32) then (
    B_X8_join_20 N m2 x1 x2
  ) else (
    cal (F_X8_isMachine N m2 x2) fun r6 m5 =>
    if r6 = (0 : Int32) then (
      B_X8_join_20 N m5 x1 x2
    ) else (
      B_X8_join_21 N m5 x1 x2 (1 : Int32)
    )
  )
set_option maxRecDepth 100000 in
set_option maxHeartbeats 4000000 in
theorem tr_X8_join {N : Nat} {m m' : Mem} {r : Int32} {x1 : Int32} {x2 : Int32} (hF : F_X8_join N m x1 x2 = some (r, m')) : Tr yX8_join wsX8_join 4 93 [q_r 70, q_i x1, q_i x2] m (some r) m' := by
  refine tr_of (bytes := cX8_join) (maxL := 4) (ret := (some .int)) (by decide) rfl (Nat.le_of_ble_eq_true rfl) (fun K hK hR => ?_)
  have hK : KOK K cX8_join 4 RX8 wsX8_join 4 0 93 := hK
  show AW K 0 0 [(0, q_r 70), (1, q_i x1), (2, q_i x2)] [] m
  unfold F_X8_join at hF
  refine aw_aload_n hK 0 rfl dX8_join_0 ?_
  refine aw_iload_n hK 1 rfl dX8_join_1 ?_
  obtain ⟨r3, m2, h1, hF⟩ := cal_some hF
  refine aw_cv hK 8 (as := [q_i x1]) (tr_X8_isMachine h1) gX8_join_X8_isMachine rfl rfl rfl (by decide) (na := 1) (by decide +kernel) rfl ⟨by decide, by decide⟩ (Nat.zero_le _) (Nat.le_of_ble_eq_true rfl) dX8_join_2 ?_
  refine aw_if_eq hK 20 rfl dX8_join_5 (fun hc => ?_) (fun hc => ?_)
  · have hF := if_t hF hc
    refine aw_sub [0, 1, 2] (lv' := [(0, q_r 70), (1, q_i x1), (2, q_i x2)]) rfl ?_
    exact bk_X8_join_20 hK hR hF
  · have hF := if_f hF hc
    refine aw_aload_n hK 0 rfl dX8_join_8 ?_
    refine aw_iload_n hK 2 rfl dX8_join_9 ?_
    obtain ⟨r6, m5, h4, hF⟩ := cal_some hF
    refine aw_cv hK 8 (as := [q_i x2]) (tr_X8_isMachine h4) gX8_join_X8_isMachine rfl rfl rfl (by decide) (na := 1) (by decide +kernel) rfl ⟨by decide, by decide⟩ (Nat.zero_le _) (Nat.le_of_ble_eq_true rfl) dX8_join_10 ?_
    refine aw_if_eq hK 20 rfl dX8_join_13 (fun hc => ?_) (fun hc => ?_)
    · have hF := if_t hF hc
      refine aw_sub [0, 1, 2] (lv' := [(0, q_r 70), (1, q_i x1), (2, q_i x2)]) rfl ?_
      exact bk_X8_join_20 hK hR hF
    · have hF := if_f hF hc
      refine aw_iconst hK (1) rfl dX8_join_16 ?_
      refine aw_goto hK 21 rfl dX8_join_17 ?_
      refine aw_sub [0, 1, 2] (lv' := [(0, q_r 70), (1, q_i x1), (2, q_i x2)]) rfl ?_
      exact bk_X8_join_21 hK hR hF
def B_X8_unites_112 (N : Nat) (rec_65 : Mem → Int32 → Int32 → Int32 → Int32 → Option (Int32 × Mem)) (m : Mem) (x1 : Int32) (x2 : Int32) (x3 : Int32) (x4 : Int32) (s0 : Int32) (s1 : Int32) : Option (Int32 × Mem) :=
  gd (inb s1 (alen 82)) <|
  gd (isb s0) <|
  bnd (mup m 82 (ix s1) s0) fun m30 =>
  bnd (x4 + (1 : Int32)) fun y31 =>
  rec_65 m30 x1 x2 x3 y31
set_option maxRecDepth 100000 in
set_option maxHeartbeats 4000000 in
theorem bk_X8_unites_112 {N : Nat} {K : KT} {m' : Mem} {rec_65 : Mem → Int32 → Int32 → Int32 → Int32 → Option (Int32 × Mem)} {r : Int32} (hK : KOK K cX8_unites 5 RX8 wsX8_unites 3 0 70) (hR : KRet K (some .boolean) (some r) m') (hrec_65 : ∀ {m : Mem} {x1 : Int32} {x2 : Int32} {x3 : Int32} {x4 : Int32}, rec_65 m x1 x2 x3 x4 = some (r, m') → AW K 0 65 [(0, q_r 70), (1, q_i x1), (2, q_i x2), (3, q_i x3), (4, q_i x4)] [] m) {m : Mem} {x1 : Int32} {x2 : Int32} {x3 : Int32} {x4 : Int32} {s0 : Int32} {s1 : Int32} (hF : B_X8_unites_112 N rec_65 m x1 x2 x3 x4 s0 s1 = some (r, m')) : AW K 0 112 [(0, q_r 70), (1, q_i x1), (2, q_i x2), (3, q_i x3), (4, q_i x4)] [q_i s0, q_i s1, q_r 82] m := by
  unfold B_X8_unites_112 at hF
  obtain ⟨g28, hF⟩ := gd_some hF
  obtain ⟨g29, hF⟩ := gd_some hF
  refine aw_zast hK rfl g28 g29 dX8_unites_112 ?_
  obtain ⟨m30, hm30, hF⟩ := bnd_some hF
  refine aw_mm hm30 ?_
  obtain ⟨y31, hy31, hF⟩ := bnd_some hF
  refine aw_iinc hK (cz := 1) 4 [(4, q_i y31), (0, q_r 70), (1, q_i x1), (2, q_i x2), (3, q_i x3)] (by decide) rfl rfl hy31 rfl dX8_unites_113 ?_
  refine aw_goto hK 65 rfl dX8_unites_116 ?_
  refine aw_sub [1, 2, 3, 4, 0] (lv' := [(0, q_r 70), (1, q_i x1), (2, q_i x2), (3, q_i x3), (4, q_i y31)]) rfl ?_
  exact hrec_65 hF
def S_X8_unites_65 (N : Nat) (rec_65 : Mem → Int32 → Int32 → Int32 → Int32 → Option (Int32 × Mem)) (m : Mem) (x1 : Int32) (x2 : Int32) (x3 : Int32) (x4 : Int32) : Option (Int32 × Mem) :=
  if x3 ≤ x4 then (
    cal (F_X8_trims N m x3) fun r18 m17 =>
    gd (isb r18) <|
    some (r18, m17)
  ) else (
    gd (inb x1 (alen 72)) <|
    if (m 72 (ix x1)) ≤ x4 then (
      gd (inb x1 (alen 72)) <|
      cal (F_X8_isEndOf N m x2 (x4 - (m 72 (ix x1)))) fun r24 m23 =>
      B_X8_unites_112 N rec_65 m23 x1 x2 x3 x4 r24 x4
    ) else (
      cal (F_X8_isEndOf N m x1 x4) fun r27 m26 =>
      B_X8_unites_112 N rec_65 m26 x1 x2 x3 x4 r27 x4
    )
  )
def L_X8_unites_65 (N : Nat) : Nat → Mem → Int32 → Int32 → Int32 → Int32 → Option (Int32 × Mem)
  | 0 => fun _ _ _ _ _ => none
  | f + 1 => S_X8_unites_65 N (L_X8_unites_65 N f)
set_option maxRecDepth 100000 in
set_option maxHeartbeats 4000000 in
theorem lp_X8_unites_65 {N : Nat} {K : KT} {m' : Mem} {r : Int32} (hK : KOK K cX8_unites 5 RX8 wsX8_unites 3 0 70) (hR : KRet K (some .boolean) (some r) m') : ∀ (f : Nat) {m : Mem} {x1 : Int32} {x2 : Int32} {x3 : Int32} {x4 : Int32}, L_X8_unites_65 N f m x1 x2 x3 x4 = some (r, m') → AW K 0 65 [(0, q_r 70), (1, q_i x1), (2, q_i x2), (3, q_i x3), (4, q_i x4)] [] m := by
  intro f
  induction f with
  | zero => intro m x1 x2 x3 x4 hF; cases hF
  | succ f hrec_65 =>
    intro m x1 x2 x3 x4 hF
    have hF : S_X8_unites_65 N (L_X8_unites_65 N f) m x1 x2 x3 x4 = some (r, m') := hF
    unfold S_X8_unites_65 at hF
    refine aw_iload hK 4 rfl dX8_unites_65 ?_
    refine aw_iload_n hK 3 rfl dX8_unites_67 ?_
    refine aw_icmp_ge hK 119 rfl dX8_unites_68 (fun hc => ?_) (fun hc => ?_)
    · have hF := if_t hF hc
      refine aw_aload_n hK 0 rfl dX8_unites_119 ?_
      refine aw_iload_n hK 3 rfl dX8_unites_120 ?_
      obtain ⟨r18, m17, h16, hF⟩ := cal_some hF
      refine aw_cv hK 8 (as := [q_i x3]) (tr_X8_trims h16) gX8_unites_X8_trims rfl rfl rfl (by decide) (na := 1) (by decide +kernel) rfl ⟨by decide, by decide⟩ (Nat.zero_le _) (Nat.le_of_ble_eq_true rfl) dX8_unites_121 ?_
      obtain ⟨g19, hF⟩ := gd_some hF
      obtain ⟨rfl, rfl⟩ := so_inj hF
      exact aw_iret hK hR (isb_narrow g19) dX8_unites_124
    · have hF := if_f hF hc
      refine aw_aload_n hK 0 rfl dX8_unites_71 ?_
      refine gf_8_15 hK rfl (82) rfl (List.mem_of_getElem? (i := 2) rfl) dX8_unites_72 ?_
      refine aw_iload hK 4 rfl dX8_unites_75 ?_
      refine aw_iload hK 4 rfl dX8_unites_77 ?_
      refine aw_aload_n hK 0 rfl dX8_unites_79 ?_
      refine gf_8_3 hK rfl (72) rfl (List.mem_of_getElem? (i := 1) rfl) dX8_unites_80 ?_
      refine aw_iload_n hK 1 rfl dX8_unites_83 ?_
      obtain ⟨g20, hF⟩ := gd_some hF
      refine aw_iald hK rfl g20 dX8_unites_84 ?_
      refine aw_icmp_ge hK 98 rfl dX8_unites_85 (fun hc => ?_) (fun hc => ?_)
      · have hF := if_t hF hc
        refine aw_aload_n hK 0 rfl dX8_unites_98 ?_
        refine aw_iload_n hK 2 rfl dX8_unites_99 ?_
        refine aw_iload hK 4 rfl dX8_unites_100 ?_
        refine aw_aload_n hK 0 rfl dX8_unites_102 ?_
        refine gf_8_3 hK rfl (72) rfl (List.mem_of_getElem? (i := 1) rfl) dX8_unites_103 ?_
        refine aw_iload_n hK 1 rfl dX8_unites_106 ?_
        obtain ⟨g21, hF⟩ := gd_some hF
        refine aw_iald hK rfl g21 dX8_unites_107 ?_
        refine aw_isub hK dX8_unites_108 ?_
        obtain ⟨r24, m23, h22, hF⟩ := cal_some hF
        refine aw_cv hK 8 (as := [q_i x2, q_i (x4 - (m 72 (ix x1)))]) (tr_X8_isEndOf h22) gX8_unites_X8_isEndOf rfl rfl rfl (by decide) (na := 2) (by decide +kernel) rfl ⟨by decide, by decide⟩ (Nat.zero_le _) (Nat.le_of_ble_eq_true rfl) dX8_unites_109 ?_
        refine aw_sub [0, 1, 2, 3, 4] (lv' := [(0, q_r 70), (1, q_i x1), (2, q_i x2), (3, q_i x3), (4, q_i x4)]) rfl ?_
        exact bk_X8_unites_112 hK hR hrec_65 hF
      · have hF := if_f hF hc
        refine aw_aload_n hK 0 rfl dX8_unites_88 ?_
        refine aw_iload_n hK 1 rfl dX8_unites_89 ?_
        refine aw_iload hK 4 rfl dX8_unites_90 ?_
        obtain ⟨r27, m26, h25, hF⟩ := cal_some hF
        refine aw_cv hK 8 (as := [q_i x1, q_i x4]) (tr_X8_isEndOf h25) gX8_unites_X8_isEndOf rfl rfl rfl (by decide) (na := 2) (by decide +kernel) rfl ⟨by decide, by decide⟩ (Nat.zero_le _) (Nat.le_of_ble_eq_true rfl) dX8_unites_92 ?_
        refine aw_goto hK 112 rfl dX8_unites_95 ?_
        refine aw_sub [0, 1, 2, 3, 4] (lv' := [(0, q_r 70), (1, q_i x1), (2, q_i x2), (3, q_i x3), (4, q_i x4)]) rfl ?_
        exact bk_X8_unites_112 hK hR hrec_65 hF
def F_X8_unites (N : Nat) (m : Mem) (x1 : Int32) (x2 : Int32) : Option (Int32 × Mem) :=
  calv (F_X8_begins N m) fun m2 =>
  calv (F_X8_puts N m2 x1 (0 : Int32)) fun m4 =>
  gd (inb x1 (alen 72)) <|
  calv (F_X8_puts N m4 x2 (m4 72 (ix x1))) fun m7 =>
  gd (inb x1 (alen 72)) <|
  gd (inb x2 (alen 72)) <|
  bnd ((m7 72 (ix x1)) + (m7 72 (ix x2))) fun y10 =>
  calv (F_X8_adds N m7 y10 (8 : Int32) (8 : Int32) (0 : Int32) (0 : Int32)) fun m12 =>
  gd (inb x1 (alen 72)) <|
  calv (F_X8_adds N m12 y10 (8 : Int32) (8 : Int32) (0 : Int32) (m12 72 (ix x1))) fun m15 =>
  L_X8_unites_65 N N m15 x1 x2 y10 (0 : Int32)
set_option maxRecDepth 100000 in
set_option maxHeartbeats 4000000 in
theorem tr_X8_unites {N : Nat} {m m' : Mem} {r : Int32} {x1 : Int32} {x2 : Int32} (hF : F_X8_unites N m x1 x2 = some (r, m')) : Tr yX8_unites wsX8_unites 3 70 [q_r 70, q_i x1, q_i x2] m (some r) m' := by
  refine tr_of (bytes := cX8_unites) (maxL := 5) (ret := (some .boolean)) (by decide) rfl (Nat.le_of_ble_eq_true rfl) (fun K hK hR => ?_)
  have hK : KOK K cX8_unites 5 RX8 wsX8_unites 3 0 70 := hK
  show AW K 0 0 [(0, q_r 70), (1, q_i x1), (2, q_i x2)] [] m
  unfold F_X8_unites at hF
  refine aw_aload_n hK 0 rfl dX8_unites_0 ?_
  obtain ⟨m2, h1, hF⟩ := calv_some hF
  refine aw_cv hK 8 (as := []) (tr_X8_begins h1) gX8_unites_X8_begins rfl rfl rfl (by decide) (na := 0) (by decide +kernel) rfl ⟨by decide, by decide⟩ (Nat.zero_le _) (Nat.le_of_ble_eq_true rfl) dX8_unites_1 ?_
  refine aw_aload_n hK 0 rfl dX8_unites_4 ?_
  refine aw_iload_n hK 1 rfl dX8_unites_5 ?_
  refine aw_iconst hK (0) rfl dX8_unites_6 ?_
  obtain ⟨m4, h3, hF⟩ := calv_some hF
  refine aw_cv hK 8 (as := [q_i x1, q_i (0 : Int32)]) (tr_X8_puts h3) gX8_unites_X8_puts rfl rfl rfl (by decide) (na := 2) (by decide +kernel) rfl ⟨by decide, by decide⟩ (Nat.zero_le _) (Nat.le_of_ble_eq_true rfl) dX8_unites_7 ?_
  refine aw_aload_n hK 0 rfl dX8_unites_10 ?_
  refine aw_iload_n hK 2 rfl dX8_unites_11 ?_
  refine aw_aload_n hK 0 rfl dX8_unites_12 ?_
  refine gf_8_3 hK rfl (72) rfl (List.mem_of_getElem? (i := 1) rfl) dX8_unites_13 ?_
  refine aw_iload_n hK 1 rfl dX8_unites_16 ?_
  obtain ⟨g5, hF⟩ := gd_some hF
  refine aw_iald hK rfl g5 dX8_unites_17 ?_
  obtain ⟨m7, h6, hF⟩ := calv_some hF
  refine aw_cv hK 8 (as := [q_i x2, q_i (m4 72 (ix x1))]) (tr_X8_puts h6) gX8_unites_X8_puts rfl rfl rfl (by decide) (na := 2) (by decide +kernel) rfl ⟨by decide, by decide⟩ (Nat.zero_le _) (Nat.le_of_ble_eq_true rfl) dX8_unites_18 ?_
  refine aw_aload_n hK 0 rfl dX8_unites_21 ?_
  refine gf_8_3 hK rfl (72) rfl (List.mem_of_getElem? (i := 1) rfl) dX8_unites_22 ?_
  refine aw_iload_n hK 1 rfl dX8_unites_25 ?_
  obtain ⟨g8, hF⟩ := gd_some hF
  refine aw_iald hK rfl g8 dX8_unites_26 ?_
  refine aw_aload_n hK 0 rfl dX8_unites_27 ?_
  refine gf_8_3 hK rfl (72) rfl (List.mem_of_getElem? (i := 1) rfl) dX8_unites_28 ?_
  refine aw_iload_n hK 2 rfl dX8_unites_31 ?_
  obtain ⟨g9, hF⟩ := gd_some hF
  refine aw_iald hK rfl g9 dX8_unites_32 ?_
  refine aw_iadd hK dX8_unites_33 ?_
  obtain ⟨y10, hy10, hF⟩ := bnd_some hF
  refine aw_nm hy10 ?_
  refine aw_istore_n hK [(3, q_i y10), (0, q_r 70), (1, q_i x1), (2, q_i x2)] (by decide) rfl dX8_unites_34 ?_
  refine aw_aload_n hK 1 rfl dX8_unites_35 ?_
  refine aw_iload_n hK 0 rfl dX8_unites_36 ?_
  refine aw_bipush hK (8) rfl dX8_unites_37 ?_
  refine aw_bipush hK (8) rfl dX8_unites_39 ?_
  refine aw_iconst hK (0) rfl dX8_unites_41 ?_
  refine aw_iconst hK (0) rfl dX8_unites_42 ?_
  obtain ⟨m12, h11, hF⟩ := calv_some hF
  refine aw_cv hK 8 (as := [q_i y10, q_i (8 : Int32), q_i (8 : Int32), q_i (0 : Int32), q_i (0 : Int32)]) (tr_X8_adds h11) gX8_unites_X8_adds rfl rfl rfl (by decide) (na := 5) (by decide +kernel) rfl ⟨by decide, by decide⟩ (Nat.zero_le _) (Nat.le_of_ble_eq_true rfl) dX8_unites_43 ?_
  refine aw_aload_n hK 1 rfl dX8_unites_46 ?_
  refine aw_iload_n hK 0 rfl dX8_unites_47 ?_
  refine aw_bipush hK (8) rfl dX8_unites_48 ?_
  refine aw_bipush hK (8) rfl dX8_unites_50 ?_
  refine aw_iconst hK (0) rfl dX8_unites_52 ?_
  refine aw_aload_n hK 1 rfl dX8_unites_53 ?_
  refine gf_8_3 hK rfl (72) rfl (List.mem_of_getElem? (i := 1) rfl) dX8_unites_54 ?_
  refine aw_iload_n hK 2 rfl dX8_unites_57 ?_
  obtain ⟨g13, hF⟩ := gd_some hF
  refine aw_iald hK rfl g13 dX8_unites_58 ?_
  obtain ⟨m15, h14, hF⟩ := calv_some hF
  refine aw_cv hK 8 (as := [q_i y10, q_i (8 : Int32), q_i (8 : Int32), q_i (0 : Int32), q_i (m12 72 (ix x1))]) (tr_X8_adds h14) gX8_unites_X8_adds rfl rfl rfl (by decide) (na := 5) (by decide +kernel) rfl ⟨by decide, by decide⟩ (Nat.zero_le _) (Nat.le_of_ble_eq_true rfl) dX8_unites_59 ?_
  refine aw_iconst hK (0) rfl dX8_unites_62 ?_
  refine aw_istore hK [(4, q_i (0 : Int32)), (3, q_i y10), (0, q_r 70), (1, q_i x1), (2, q_i x2)] (by decide) rfl dX8_unites_63 ?_
  refine aw_sub [2, 3, 4, 1, 0] (lv' := [(0, q_r 70), (1, q_i x1), (2, q_i x2), (3, q_i y10), (4, q_i (0 : Int32))]) rfl ?_
  exact lp_X8_unites_65 hK hR _ hF
def B_X8_unite_52 (N : Nat) (m : Mem) (s0 : Int32) : Option (Int32 × Mem) :=
  cal (F_X8_isFine N m s0) fun r15 m14 =>
  if r15 = (0 : Int32) then (
    some ((0 : Int32), m14)
  ) else (
    cal (F_X8_keeps N m14) fun r18 m17 =>
    some (r18, m17)
  )
set_option maxRecDepth 100000 in
set_option maxHeartbeats 4000000 in
theorem bk_X8_unite_52 {N : Nat} {K : KT} {m' : Mem} {r : Int32} (hK : KOK K cX8_unite 4 RX8 wsX8_unite 4 0 94) (hR : KRet K (some .int) (some r) m') {m : Mem} {s0 : Int32} (hF : B_X8_unite_52 N m s0 = some (r, m')) : AW K 0 52 [(0, q_r 70)] [q_i s0, q_r 70] m := by
  unfold B_X8_unite_52 at hF
  obtain ⟨r15, m14, h13, hF⟩ := cal_some hF
  refine aw_cv hK 8 (as := [q_i s0]) (tr_X8_isFine h13) gX8_unite_X8_isFine rfl rfl rfl (by decide) (na := 1) (by decide +kernel) rfl ⟨by decide, by decide⟩ (Nat.zero_le _) (Nat.le_of_ble_eq_true rfl) dX8_unite_52 ?_
  refine aw_if_ne hK 60 rfl dX8_unite_55 (fun hc => ?_) (fun hc => ?_)
  · have hF := if_f hF hc
    refine aw_aload_n hK 0 rfl dX8_unite_60 ?_
    obtain ⟨r18, m17, h16, hF⟩ := cal_some hF
    refine aw_cv hK 8 (as := []) (tr_X8_keeps h16) gX8_unite_X8_keeps rfl rfl rfl (by decide) (na := 0) (by decide +kernel) rfl ⟨by decide, by decide⟩ (Nat.zero_le _) (Nat.le_of_ble_eq_true rfl) dX8_unite_61 ?_
    obtain ⟨rfl, rfl⟩ := so_inj hF
    exact aw_iret hK hR rfl dX8_unite_64
  · have hF := if_t hF hc
    refine aw_iconst hK (0) rfl dX8_unite_58 ?_
    obtain ⟨rfl, rfl⟩ := so_inj hF
    exact aw_iret hK hR rfl dX8_unite_59
def B_X8_unite_47 (N : Nat) (m : Mem) : Option (Int32 × Mem) :=
  B_X8_unite_52 N m (2 : Int32)
set_option maxRecDepth 100000 in
set_option maxHeartbeats 4000000 in
theorem bk_X8_unite_47 {N : Nat} {K : KT} {m' : Mem} {r : Int32} (hK : KOK K cX8_unite 4 RX8 wsX8_unite 4 0 94) (hR : KRet K (some .int) (some r) m') {m : Mem} (hF : B_X8_unite_47 N m = some (r, m')) : AW K 0 47 [(0, q_r 70)] [q_r 70] m := by
  unfold B_X8_unite_47 at hF
  refine aw_iconst hK (2) rfl dX8_unite_47 ?_
  refine aw_goto hK 52 rfl dX8_unite_48 ?_
  refine aw_sub [0] (lv' := [(0, q_r 70)]) rfl ?_
  exact bk_X8_unite_52 hK hR hF
def B_X8_unite_21 (N : Nat) (m : Mem) (x1 : Int32) (x2 : Int32) (s0 : Int32) : Option (Int32 × Mem) :=
  if s0 = (0 : Int32) then (
    B_X8_unite_52 N m (1 : Int32)
  ) else (
    cal (F_X8_isThere N m) fun r9 m8 =>
    if r9 = (0 : Int32) then (
      B_X8_unite_47 N m8
    ) else (
      cal (F_X8_unites N m8 x1 x2) fun r12 m11 =>
      if r12 = (0 : Int32) then (
        B_X8_unite_47 N m11
      ) else (
        B_X8_unite_52 N m11 (0 : Int32)
      )
    )
  )
set_option maxRecDepth 100000 in
set_option maxHeartbeats 4000000 in
theorem bk_X8_unite_21 {N : Nat} {K : KT} {m' : Mem} {r : Int32} (hK : KOK K cX8_unite 4 RX8 wsX8_unite 4 0 94) (hR : KRet K (some .int) (some r) m') {m : Mem} {x1 : Int32} {x2 : Int32} {s0 : Int32} (hF : B_X8_unite_21 N m x1 x2 s0 = some (r, m')) : AW K 0 21 [(0, q_r 70), (1, q_i x1), (2, q_i x2)] [q_i s0] m := by
  unfold B_X8_unite_21 at hF
  refine aw_istore_n hK [(3, q_i s0), (0, q_r 70), (1, q_i x1), (2, q_i x2)] (by decide) rfl dX8_unite_21 ?_
  refine aw_aload_n hK 1 rfl dX8_unite_22 ?_
  refine aw_iload_n hK 0 rfl dX8_unite_23 ?_
  refine aw_if_ne hK 31 rfl dX8_unite_24 (fun hc => ?_) (fun hc => ?_)
  · have hF := if_f hF hc
    refine aw_aload_n hK 1 rfl dX8_unite_31 ?_
    obtain ⟨r9, m8, h7, hF⟩ := cal_some hF
    refine aw_cv hK 8 (as := []) (tr_X8_isThere h7) gX8_unite_X8_isThere rfl rfl rfl (by decide) (na := 0) (by decide +kernel) rfl ⟨by decide, by decide⟩ (Nat.zero_le _) (Nat.le_of_ble_eq_true rfl) dX8_unite_32 ?_
    refine aw_if_eq hK 47 rfl dX8_unite_35 (fun hc => ?_) (fun hc => ?_)
    · have hF := if_t hF hc
      refine aw_sub [1] (lv' := [(0, q_r 70)]) rfl ?_
      exact bk_X8_unite_47 hK hR hF
    · have hF := if_f hF hc
      refine aw_aload_n hK 1 rfl dX8_unite_38 ?_
      refine aw_iload_n hK 2 rfl dX8_unite_39 ?_
      refine aw_iload_n hK 3 rfl dX8_unite_40 ?_
      obtain ⟨r12, m11, h10, hF⟩ := cal_some hF
      refine aw_cv hK 8 (as := [q_i x1, q_i x2]) (tr_X8_unites h10) gX8_unite_X8_unites rfl rfl rfl (by decide) (na := 2) (by decide +kernel) rfl ⟨by decide, by decide⟩ (Nat.zero_le _) (Nat.le_of_ble_eq_true rfl) dX8_unite_41 ?_
      refine aw_if_ne hK 51 rfl dX8_unite_44 (fun hc => ?_) (fun hc => ?_)
      · have hF := if_f hF hc
        refine aw_iconst hK (0) rfl dX8_unite_51 ?_
        refine aw_sub [1] (lv' := [(0, q_r 70)]) rfl ?_
        exact bk_X8_unite_52 hK hR hF
      · have hF := if_t hF hc
        refine aw_sub [1] (lv' := [(0, q_r 70)]) rfl ?_
        exact bk_X8_unite_47 hK hR hF
  · have hF := if_t hF hc
    refine aw_iconst hK (1) rfl dX8_unite_27 ?_
    refine aw_goto hK 52 rfl dX8_unite_28 ?_
    refine aw_sub [1] (lv' := [(0, q_r 70)]) rfl ?_
    exact bk_X8_unite_52 hK hR hF
def B_X8_unite_20 (N : Nat) (m : Mem) (x1 : Int32) (x2 : Int32) : Option (Int32 × Mem) :=
  B_X8_unite_21 N m x1 x2 (0 : Int32)
set_option maxRecDepth 100000 in
set_option maxHeartbeats 4000000 in
theorem bk_X8_unite_20 {N : Nat} {K : KT} {m' : Mem} {r : Int32} (hK : KOK K cX8_unite 4 RX8 wsX8_unite 4 0 94) (hR : KRet K (some .int) (some r) m') {m : Mem} {x1 : Int32} {x2 : Int32} (hF : B_X8_unite_20 N m x1 x2 = some (r, m')) : AW K 0 20 [(0, q_r 70), (1, q_i x1), (2, q_i x2)] [] m := by
  unfold B_X8_unite_20 at hF
  refine aw_iconst hK (0) rfl dX8_unite_20 ?_
  refine aw_sub [0, 1, 2] (lv' := [(0, q_r 70), (1, q_i x1), (2, q_i x2)]) rfl ?_
  exact bk_X8_unite_21 hK hR hF
def F_X8_unite (N : Nat) (m : Mem) (x1 : Int32) (x2 : Int32) : Option (Int32 × Mem) :=
  cal (F_X8_isMachine N m x1) fun r3 m2 =>
  if r3 = (0 : Int32) then (
    B_X8_unite_20 N m2 x1 x2
  ) else (
    cal (F_X8_isMachine N m2 x2) fun r6 m5 =>
    if r6 = (0 : Int32) then (
      B_X8_unite_20 N m5 x1 x2
    ) else (
      B_X8_unite_21 N m5 x1 x2 (1 : Int32)
    )
  )
set_option maxRecDepth 100000 in
set_option maxHeartbeats 4000000 in
theorem tr_X8_unite {N : Nat} {m m' : Mem} {r : Int32} {x1 : Int32} {x2 : Int32} (hF : F_X8_unite N m x1 x2 = some (r, m')) : Tr yX8_unite wsX8_unite 4 94 [q_r 70, q_i x1, q_i x2] m (some r) m' := by
  refine tr_of (bytes := cX8_unite) (maxL := 4) (ret := (some .int)) (by decide) rfl (Nat.le_of_ble_eq_true rfl) (fun K hK hR => ?_)
  have hK : KOK K cX8_unite 4 RX8 wsX8_unite 4 0 94 := hK
  show AW K 0 0 [(0, q_r 70), (1, q_i x1), (2, q_i x2)] [] m
  unfold F_X8_unite at hF
  refine aw_aload_n hK 0 rfl dX8_unite_0 ?_
  refine aw_iload_n hK 1 rfl dX8_unite_1 ?_
  obtain ⟨r3, m2, h1, hF⟩ := cal_some hF
  refine aw_cv hK 8 (as := [q_i x1]) (tr_X8_isMachine h1) gX8_unite_X8_isMachine rfl rfl rfl (by decide) (na := 1) (by decide +kernel) rfl ⟨by decide, by decide⟩ (Nat.zero_le _) (Nat.le_of_ble_eq_true rfl) dX8_unite_2 ?_
  refine aw_if_eq hK 20 rfl dX8_unite_5 (fun hc => ?_) (fun hc => ?_)
  · have hF := if_t hF hc
    refine aw_sub [0, 1, 2] (lv' := [(0, q_r 70), (1, q_i x1), (2, q_i x2)]) rfl ?_
    exact bk_X8_unite_20 hK hR hF
  · have hF := if_f hF hc
    refine aw_aload_n hK 0 rfl dX8_unite_8 ?_
    refine aw_iload_n hK 2 rfl dX8_unite_9 ?_
    obtain ⟨r6, m5, h4, hF⟩ := cal_some hF
    refine aw_cv hK 8 (as := [q_i x2]) (tr_X8_isMachine h4) gX8_unite_X8_isMachine rfl rfl rfl (by decide) (na := 1) (by decide +kernel) rfl ⟨by decide, by decide⟩ (Nat.zero_le _) (Nat.le_of_ble_eq_true rfl) dX8_unite_10 ?_
    refine aw_if_eq hK 20 rfl dX8_unite_13 (fun hc => ?_) (fun hc => ?_)
    · have hF := if_t hF hc
      refine aw_sub [0, 1, 2] (lv' := [(0, q_r 70), (1, q_i x1), (2, q_i x2)]) rfl ?_
      exact bk_X8_unite_20 hK hR hF
    · have hF := if_f hF hc
      refine aw_iconst hK (1) rfl dX8_unite_16 ?_
      refine aw_goto hK 21 rfl dX8_unite_17 ?_
      refine aw_sub [0, 1, 2] (lv' := [(0, q_r 70), (1, q_i x1), (2, q_i x2)]) rfl ?_
      exact bk_X8_unite_21 hK hR hF
