def B_X7_rule_205 (N : Nat) (rec_72 : Mem → Int32 → Int32 → Int32 → Int32 → Int32 → Int32 → Option ((Int32 ⊕ Nat) × Mem)) (m : Mem) (x1 : Int32) (x2 : Int32) (x3 : Int32) (x4 : Int32) (x5 : Int32) (x6 : Int32) : Option ((Int32 ⊕ Nat) × Mem) :=
  bnd (x6 + (1 : Int32)) fun y22 =>
  rec_72 m x1 x2 x3 x4 x5 y22
set_option maxRecDepth 100000 in
set_option maxHeartbeats 4000000 in
theorem bk_X7_rule_205 {N : Nat} {K : KT} {m' : Mem} {rec_72 : Mem → Int32 → Int32 → Int32 → Int32 → Int32 → Int32 → Option ((Int32 ⊕ Nat) × Mem)} {res : Int32 ⊕ Nat} (hK : KOK K cX7_rule 9 RX7 wsX7_rule 7 2 114) (hR : KX K (some .int) (xo true res) m' 2) (hrec_72 : ∀ {m : Mem} {x1 : Int32} {x2 : Int32} {x3 : Int32} {x4 : Int32} {x5 : Int32} {x6 : Int32}, rec_72 m x1 x2 x3 x4 x5 x6 = some (res, m') → AW K 1 72 [(0, q_r 0), (1, q_i x1), (2, q_i x2), (3, q_i x3), (4, q_i x4), (5, q_i x5), (6, q_i x6)] [] m) {m : Mem} {x1 : Int32} {x2 : Int32} {x3 : Int32} {x4 : Int32} {x5 : Int32} {x6 : Int32} (hF : B_X7_rule_205 N rec_72 m x1 x2 x3 x4 x5 x6 = some (res, m')) : AW K 1 205 [(0, q_r 0), (1, q_i x1), (2, q_i x2), (3, q_i x3), (4, q_i x4), (5, q_i x5), (6, q_i x6)] [] m := by
  unfold B_X7_rule_205 at hF
  obtain ⟨y22, hy22, hF⟩ := bnd_some hF
  refine aw_iinc hK (cz := 1) 6 [(6, q_i y22), (0, q_r 0), (1, q_i x1), (2, q_i x2), (3, q_i x3), (4, q_i x4), (5, q_i x5)] (by decide) rfl rfl hy22 rfl dX7_rule_205 ?_
  refine aw_goto hK 72 rfl dX7_rule_208 ?_
  refine aw_sub [1, 2, 3, 4, 5, 6, 0] (lv' := [(0, q_r 0), (1, q_i x1), (2, q_i x2), (3, q_i x3), (4, q_i x4), (5, q_i x5), (6, q_i y22)]) rfl ?_
  exact hrec_72 hF
def B_X7_rule_167 (N : Nat) (rec_72 : Mem → Int32 → Int32 → Int32 → Int32 → Int32 → Int32 → Option ((Int32 ⊕ Nat) × Mem)) (rec_81 : Mem → Int32 → Int32 → Int32 → Int32 → Int32 → Int32 → Int32 → Option ((Int32 ⊕ Nat) × Mem)) (m : Mem) (x1 : Int32) (x2 : Int32) (x3 : Int32) (x4 : Int32) (x5 : Int32) (x6 : Int32) (x7 : Int32) : Option ((Int32 ⊕ Nat) × Mem) :=
  bnd (x7 + (1 : Int32)) fun y21 =>
  rec_81 m x1 x2 x3 x4 x5 x6 y21
set_option maxRecDepth 100000 in
set_option maxHeartbeats 4000000 in
theorem bk_X7_rule_167 {N : Nat} {K : KT} {m' : Mem} {rec_72 : Mem → Int32 → Int32 → Int32 → Int32 → Int32 → Int32 → Option ((Int32 ⊕ Nat) × Mem)} {rec_81 : Mem → Int32 → Int32 → Int32 → Int32 → Int32 → Int32 → Int32 → Option ((Int32 ⊕ Nat) × Mem)} {res : Int32 ⊕ Nat} (hK : KOK K cX7_rule 9 RX7 wsX7_rule 7 2 114) (hR : KX K (some .int) (xo true res) m' 2) (hrec_72 : ∀ {m : Mem} {x1 : Int32} {x2 : Int32} {x3 : Int32} {x4 : Int32} {x5 : Int32} {x6 : Int32}, rec_72 m x1 x2 x3 x4 x5 x6 = some (res, m') → AW K 1 72 [(0, q_r 0), (1, q_i x1), (2, q_i x2), (3, q_i x3), (4, q_i x4), (5, q_i x5), (6, q_i x6)] [] m) (hrec_81 : ∀ {m : Mem} {x1 : Int32} {x2 : Int32} {x3 : Int32} {x4 : Int32} {x5 : Int32} {x6 : Int32} {x7 : Int32}, rec_81 m x1 x2 x3 x4 x5 x6 x7 = some (res, m') → AW K 1 81 [(0, q_r 0), (1, q_i x1), (2, q_i x2), (3, q_i x3), (4, q_i x4), (5, q_i x5), (6, q_i x6), (7, q_i x7)] [] m) {m : Mem} {x1 : Int32} {x2 : Int32} {x3 : Int32} {x4 : Int32} {x5 : Int32} {x6 : Int32} {x7 : Int32} (hF : B_X7_rule_167 N rec_72 rec_81 m x1 x2 x3 x4 x5 x6 x7 = some (res, m')) : AW K 1 167 [(0, q_r 0), (1, q_i x1), (2, q_i x2), (3, q_i x3), (4, q_i x4), (5, q_i x5), (6, q_i x6), (7, q_i x7)] [] m := by
  unfold B_X7_rule_167 at hF
  obtain ⟨y21, hy21, hF⟩ := bnd_some hF
  refine aw_iinc hK (cz := 1) 7 [(7, q_i y21), (0, q_r 0), (1, q_i x1), (2, q_i x2), (3, q_i x3), (4, q_i x4), (5, q_i x5), (6, q_i x6)] (by decide) rfl rfl hy21 rfl dX7_rule_167 ?_
  refine aw_goto hK 81 rfl dX7_rule_170 ?_
  refine aw_sub [1, 2, 3, 4, 5, 6, 7, 0] (lv' := [(0, q_r 0), (1, q_i x1), (2, q_i x2), (3, q_i x3), (4, q_i x4), (5, q_i x5), (6, q_i x6), (7, q_i y21)]) rfl ?_
  exact hrec_81 hF
def B_X7_rule_116 (N : Nat) (rec_72 : Mem → Int32 → Int32 → Int32 → Int32 → Int32 → Int32 → Option ((Int32 ⊕ Nat) × Mem)) (rec_81 : Mem → Int32 → Int32 → Int32 → Int32 → Int32 → Int32 → Int32 → Option ((Int32 ⊕ Nat) × Mem)) (m : Mem) (x1 : Int32) (x2 : Int32) (x3 : Int32) (x4 : Int32) (x5 : Int32) (x6 : Int32) (x7 : Int32) (s0 : Int32) : Option ((Int32 ⊕ Nat) × Mem) :=
  calv (F_X7_addCopy N m (0 : Int32) x6 x7 s0) fun m16 =>
  if x7 = x1 then (
    calv (F_X7_addRewriting N m16 (P_X7_ruleState (1 : Int32) x6) x1 x2 x4 s0 x5) fun m18 =>
    B_X7_rule_167 N rec_72 rec_81 m18 x1 x2 x3 x4 x5 x6 x7
  ) else (
    calv (F_X7_addCopy N m16 (1 : Int32) x6 x7 s0) fun m20 =>
    B_X7_rule_167 N rec_72 rec_81 m20 x1 x2 x3 x4 x5 x6 x7
  )
set_option maxRecDepth 100000 in
set_option maxHeartbeats 4000000 in
theorem bk_X7_rule_116 {N : Nat} {K : KT} {m' : Mem} {rec_72 : Mem → Int32 → Int32 → Int32 → Int32 → Int32 → Int32 → Option ((Int32 ⊕ Nat) × Mem)} {rec_81 : Mem → Int32 → Int32 → Int32 → Int32 → Int32 → Int32 → Int32 → Option ((Int32 ⊕ Nat) × Mem)} {res : Int32 ⊕ Nat} (hK : KOK K cX7_rule 9 RX7 wsX7_rule 7 2 114) (hR : KX K (some .int) (xo true res) m' 2) (hrec_72 : ∀ {m : Mem} {x1 : Int32} {x2 : Int32} {x3 : Int32} {x4 : Int32} {x5 : Int32} {x6 : Int32}, rec_72 m x1 x2 x3 x4 x5 x6 = some (res, m') → AW K 1 72 [(0, q_r 0), (1, q_i x1), (2, q_i x2), (3, q_i x3), (4, q_i x4), (5, q_i x5), (6, q_i x6)] [] m) (hrec_81 : ∀ {m : Mem} {x1 : Int32} {x2 : Int32} {x3 : Int32} {x4 : Int32} {x5 : Int32} {x6 : Int32} {x7 : Int32}, rec_81 m x1 x2 x3 x4 x5 x6 x7 = some (res, m') → AW K 1 81 [(0, q_r 0), (1, q_i x1), (2, q_i x2), (3, q_i x3), (4, q_i x4), (5, q_i x5), (6, q_i x6), (7, q_i x7)] [] m) {m : Mem} {x1 : Int32} {x2 : Int32} {x3 : Int32} {x4 : Int32} {x5 : Int32} {x6 : Int32} {x7 : Int32} {s0 : Int32} (hF : B_X7_rule_116 N rec_72 rec_81 m x1 x2 x3 x4 x5 x6 x7 s0 = some (res, m')) : AW K 1 116 [(0, q_r 0), (1, q_i x1), (2, q_i x2), (3, q_i x3), (4, q_i x4), (5, q_i x5), (6, q_i x6), (7, q_i x7)] [q_i s0] m := by
  unfold B_X7_rule_116 at hF
  refine aw_istore hK [(8, q_i s0), (0, q_r 0), (1, q_i x1), (2, q_i x2), (3, q_i x3), (4, q_i x4), (5, q_i x5), (6, q_i x6), (7, q_i x7)] (by decide) rfl dX7_rule_116 ?_
  refine aw_aload_n hK 1 rfl dX7_rule_118 ?_
  refine aw_iconst hK (0) rfl dX7_rule_119 ?_
  refine aw_iload hK 7 rfl dX7_rule_120 ?_
  refine aw_iload hK 8 rfl dX7_rule_122 ?_
  refine aw_iload hK 0 rfl dX7_rule_124 ?_
  obtain ⟨m16, h15, hF⟩ := calv_some hF
  refine aw_cv hK 7 (as := [q_i (0 : Int32), q_i x6, q_i x7, q_i s0]) (tr_X7_addCopy h15) gX7_rule_X7_addCopy rfl rfl rfl (by decide) (na := 4) (by decide +kernel) rfl ⟨by decide, by decide⟩ (Nat.le_of_ble_eq_true rfl) (Nat.le_of_ble_eq_true rfl) dX7_rule_126 ?_
  refine aw_iload hK 8 rfl dX7_rule_129 ?_
  refine aw_iload_n hK 2 rfl dX7_rule_131 ?_
  refine aw_icmp_eq hK 149 rfl dX7_rule_132 (fun hc => ?_) (fun hc => ?_)
  · have hF := if_t hF hc
    refine aw_aload_n hK 1 rfl dX7_rule_149 ?_
    refine aw_iconst hK (1) rfl dX7_rule_150 ?_
    refine aw_iload hK 7 rfl dX7_rule_151 ?_
    refine aw_cs hK (as := [q_i (1 : Int32), q_i x6]) (trp_X7_ruleState (1 : Int32) x6 _) gX7_rule_X7_ruleState rfl (na := 2) (by decide +kernel) rfl ⟨by decide, by decide⟩ (Nat.le_of_ble_eq_true rfl) (Nat.le_of_ble_eq_true rfl) dX7_rule_153 ?_
    refine aw_iload_n hK 2 rfl dX7_rule_156 ?_
    refine aw_iload_n hK 3 rfl dX7_rule_157 ?_
    refine aw_iload hK 5 rfl dX7_rule_158 ?_
    refine aw_iload hK 0 rfl dX7_rule_160 ?_
    refine aw_iload hK 6 rfl dX7_rule_162 ?_
    obtain ⟨m18, h17, hF⟩ := calv_some hF
    refine aw_cv hK 7 (as := [q_i (P_X7_ruleState (1 : Int32) x6), q_i x1, q_i x2, q_i x4, q_i s0, q_i x5]) (tr_X7_addRewriting h17) gX7_rule_X7_addRewriting rfl rfl rfl (by decide) (na := 6) (by decide +kernel) rfl ⟨by decide, by decide⟩ (Nat.le_of_ble_eq_true rfl) (Nat.le_of_ble_eq_true rfl) dX7_rule_164 ?_
    refine aw_sub [1, 2, 3, 4, 5, 6, 7, 8] (lv' := [(0, q_r 0), (1, q_i x1), (2, q_i x2), (3, q_i x3), (4, q_i x4), (5, q_i x5), (6, q_i x6), (7, q_i x7)]) rfl ?_
    exact bk_X7_rule_167 hK hR hrec_72 hrec_81 hF
  · have hF := if_f hF hc
    refine aw_aload_n hK 1 rfl dX7_rule_135 ?_
    refine aw_iconst hK (1) rfl dX7_rule_136 ?_
    refine aw_iload hK 7 rfl dX7_rule_137 ?_
    refine aw_iload hK 8 rfl dX7_rule_139 ?_
    refine aw_iload hK 0 rfl dX7_rule_141 ?_
    obtain ⟨m20, h19, hF⟩ := calv_some hF
    refine aw_cv hK 7 (as := [q_i (1 : Int32), q_i x6, q_i x7, q_i s0]) (tr_X7_addCopy h19) gX7_rule_X7_addCopy rfl rfl rfl (by decide) (na := 4) (by decide +kernel) rfl ⟨by decide, by decide⟩ (Nat.le_of_ble_eq_true rfl) (Nat.le_of_ble_eq_true rfl) dX7_rule_143 ?_
    refine aw_goto hK 167 rfl dX7_rule_146 ?_
    refine aw_sub [1, 2, 3, 4, 5, 6, 7, 8] (lv' := [(0, q_r 0), (1, q_i x1), (2, q_i x2), (3, q_i x3), (4, q_i x4), (5, q_i x5), (6, q_i x6), (7, q_i x7)]) rfl ?_
    exact bk_X7_rule_167 hK hR hrec_72 hrec_81 hF
def B_X7_rule_111 (N : Nat) (rec_72 : Mem → Int32 → Int32 → Int32 → Int32 → Int32 → Int32 → Option ((Int32 ⊕ Nat) × Mem)) (rec_81 : Mem → Int32 → Int32 → Int32 → Int32 → Int32 → Int32 → Int32 → Option ((Int32 ⊕ Nat) × Mem)) (m : Mem) (x1 : Int32) (x2 : Int32) (x3 : Int32) (x4 : Int32) (x5 : Int32) (x6 : Int32) (x7 : Int32) : Option ((Int32 ⊕ Nat) × Mem) :=
  B_X7_rule_116 N rec_72 rec_81 m x1 x2 x3 x4 x5 x6 x7 (1 : Int32)
set_option maxRecDepth 100000 in
set_option maxHeartbeats 4000000 in
theorem bk_X7_rule_111 {N : Nat} {K : KT} {m' : Mem} {rec_72 : Mem → Int32 → Int32 → Int32 → Int32 → Int32 → Int32 → Option ((Int32 ⊕ Nat) × Mem)} {rec_81 : Mem → Int32 → Int32 → Int32 → Int32 → Int32 → Int32 → Int32 → Option ((Int32 ⊕ Nat) × Mem)} {res : Int32 ⊕ Nat} (hK : KOK K cX7_rule 9 RX7 wsX7_rule 7 2 114) (hR : KX K (some .int) (xo true res) m' 2) (hrec_72 : ∀ {m : Mem} {x1 : Int32} {x2 : Int32} {x3 : Int32} {x4 : Int32} {x5 : Int32} {x6 : Int32}, rec_72 m x1 x2 x3 x4 x5 x6 = some (res, m') → AW K 1 72 [(0, q_r 0), (1, q_i x1), (2, q_i x2), (3, q_i x3), (4, q_i x4), (5, q_i x5), (6, q_i x6)] [] m) (hrec_81 : ∀ {m : Mem} {x1 : Int32} {x2 : Int32} {x3 : Int32} {x4 : Int32} {x5 : Int32} {x6 : Int32} {x7 : Int32}, rec_81 m x1 x2 x3 x4 x5 x6 x7 = some (res, m') → AW K 1 81 [(0, q_r 0), (1, q_i x1), (2, q_i x2), (3, q_i x3), (4, q_i x4), (5, q_i x5), (6, q_i x6), (7, q_i x7)] [] m) {m : Mem} {x1 : Int32} {x2 : Int32} {x3 : Int32} {x4 : Int32} {x5 : Int32} {x6 : Int32} {x7 : Int32} (hF : B_X7_rule_111 N rec_72 rec_81 m x1 x2 x3 x4 x5 x6 x7 = some (res, m')) : AW K 1 111 [(0, q_r 0), (1, q_i x1), (2, q_i x2), (3, q_i x3), (4, q_i x4), (5, q_i x5), (6, q_i x6), (7, q_i x7)] [] m := by
  unfold B_X7_rule_111 at hF
  refine aw_iconst hK (1) rfl dX7_rule_111 ?_
  refine aw_goto hK 116 rfl dX7_rule_112 ?_
  refine aw_sub [0, 1, 2, 3, 4, 5, 6, 7] (lv' := [(0, q_r 0), (1, q_i x1), (2, q_i x2), (3, q_i x3), (4, q_i x4), (5, q_i x5), (6, q_i x6), (7, q_i x7)]) rfl ?_
  exact bk_X7_rule_116 hK hR hrec_72 hrec_81 hF
def S_X7_rule_81 (N : Nat) (rec_72 : Mem → Int32 → Int32 → Int32 → Int32 → Int32 → Int32 → Option ((Int32 ⊕ Nat) × Mem)) (rec_81 : Mem → Int32 → Int32 → Int32 → Int32 → Int32 → Int32 → Int32 → Option ((Int32 ⊕ Nat) × Mem)) (m : Mem) (x1 : Int32) (x2 : Int32) (x3 : Int32) (x4 : Int32) (x5 : Int32) (x6 : Int32) (x7 : Int32) : Option ((Int32 ⊕ Nat) × Mem) :=
  if (8 : Int32) ≤ x7 then (
    if x6 = (1 : Int32) then (
      B_X7_rule_205 N rec_72 m x1 x2 x3 x4 x5 x6
    ) else (
      calv (F_X1_addEnd N m (P_X7_ruleState (0 : Int32) x6)) fun m12 =>
      calv (F_X1_addEnd N m12 (P_X7_ruleState (1 : Int32) x6)) fun m14 =>
      B_X7_rule_205 N rec_72 m14 x1 x2 x3 x4 x5 x6
    )
  ) else (
    if (P_X7_isAsKnown x7 x6 x4) = (0 : Int32) then (
      B_X7_rule_167 N rec_72 rec_81 m x1 x2 x3 x4 x5 x6 x7
    ) else (
      if x3 = (-1 : Int32) then (
        B_X7_rule_111 N rec_72 rec_81 m x1 x2 x3 x4 x5 x6 x7
      ) else (
        if x7 = x3 then (
          B_X7_rule_111 N rec_72 rec_81 m x1 x2 x3 x4 x5 x6 x7
        ) else (
          B_X7_rule_116 N rec_72 rec_81 m x1 x2 x3 x4 x5 x6 x7 (0 : Int32)
        )
      )
    )
  )
def L_X7_rule_81 (N : Nat) (rec_72 : Mem → Int32 → Int32 → Int32 → Int32 → Int32 → Int32 → Option ((Int32 ⊕ Nat) × Mem)) : Nat → Mem → Int32 → Int32 → Int32 → Int32 → Int32 → Int32 → Int32 → Option ((Int32 ⊕ Nat) × Mem)
  | 0 => fun _ _ _ _ _ _ _ _ => none
  | f + 1 => S_X7_rule_81 N rec_72 (L_X7_rule_81 N rec_72 f)
set_option maxRecDepth 100000 in
set_option maxHeartbeats 4000000 in
theorem lp_X7_rule_81 {N : Nat} {K : KT} {m' : Mem} {rec_72 : Mem → Int32 → Int32 → Int32 → Int32 → Int32 → Int32 → Option ((Int32 ⊕ Nat) × Mem)} {res : Int32 ⊕ Nat} (hK : KOK K cX7_rule 9 RX7 wsX7_rule 7 2 114) (hR : KX K (some .int) (xo true res) m' 2) (hrec_72 : ∀ {m : Mem} {x1 : Int32} {x2 : Int32} {x3 : Int32} {x4 : Int32} {x5 : Int32} {x6 : Int32}, rec_72 m x1 x2 x3 x4 x5 x6 = some (res, m') → AW K 1 72 [(0, q_r 0), (1, q_i x1), (2, q_i x2), (3, q_i x3), (4, q_i x4), (5, q_i x5), (6, q_i x6)] [] m) : ∀ (f : Nat) {m : Mem} {x1 : Int32} {x2 : Int32} {x3 : Int32} {x4 : Int32} {x5 : Int32} {x6 : Int32} {x7 : Int32}, L_X7_rule_81 N rec_72 f m x1 x2 x3 x4 x5 x6 x7 = some (res, m') → AW K 1 81 [(0, q_r 0), (1, q_i x1), (2, q_i x2), (3, q_i x3), (4, q_i x4), (5, q_i x5), (6, q_i x6), (7, q_i x7)] [] m := by
  intro f
  induction f with
  | zero => intro m x1 x2 x3 x4 x5 x6 x7 hF; cases hF
  | succ f hrec_81 =>
    intro m x1 x2 x3 x4 x5 x6 x7 hF
    have hF : S_X7_rule_81 N rec_72 (L_X7_rule_81 N rec_72 f) m x1 x2 x3 x4 x5 x6 x7 = some (res, m') := hF
    unfold S_X7_rule_81 at hF
    refine aw_iload hK 7 rfl dX7_rule_81 ?_
    refine aw_bipush hK (8) rfl dX7_rule_83 ?_
    refine aw_icmp_ge hK 173 rfl dX7_rule_85 (fun hc => ?_) (fun hc => ?_)
    · have hF := if_t hF hc
      refine aw_iload hK 6 rfl dX7_rule_173 ?_
      refine aw_iconst hK (1) rfl dX7_rule_175 ?_
      refine aw_icmp_eq hK 205 rfl dX7_rule_176 (fun hc => ?_) (fun hc => ?_)
      · have hF := if_t hF hc
        refine aw_sub [0, 1, 2, 3, 4, 5, 6] (lv' := [(0, q_r 0), (1, q_i x1), (2, q_i x2), (3, q_i x3), (4, q_i x4), (5, q_i x5), (6, q_i x6)]) rfl ?_
        exact bk_X7_rule_205 hK hR hrec_72 hF
      · have hF := if_f hF hc
        refine aw_aload_n hK 0 rfl dX7_rule_179 ?_
        refine gf_7_4 hK rfl (3) rfl (List.mem_of_getElem? (i := 3) rfl) dX7_rule_180 ?_
        refine aw_iconst hK (0) rfl dX7_rule_183 ?_
        refine aw_iload hK 6 rfl dX7_rule_184 ?_
        refine aw_cs hK (as := [q_i (0 : Int32), q_i x6]) (trp_X7_ruleState (0 : Int32) x6 _) gX7_rule_X7_ruleState rfl (na := 2) (by decide +kernel) rfl ⟨by decide, by decide⟩ (Nat.le_of_ble_eq_true rfl) (Nat.le_of_ble_eq_true rfl) dX7_rule_186 ?_
        obtain ⟨m12, h11, hF⟩ := calv_some hF
        refine aw_cv hK 1 (as := [q_i (P_X7_ruleState (0 : Int32) x6)]) (tr_X1_addEnd h11) gX7_rule_X1_addEnd rfl rfl rfl (by decide) (na := 1) (by decide +kernel) rfl ⟨by decide, by decide⟩ (Nat.le_of_ble_eq_true rfl) (Nat.le_of_ble_eq_true rfl) dX7_rule_189 ?_
        refine aw_aload_n hK 0 rfl dX7_rule_192 ?_
        refine gf_7_4 hK rfl (3) rfl (List.mem_of_getElem? (i := 3) rfl) dX7_rule_193 ?_
        refine aw_iconst hK (1) rfl dX7_rule_196 ?_
        refine aw_iload hK 6 rfl dX7_rule_197 ?_
        refine aw_cs hK (as := [q_i (1 : Int32), q_i x6]) (trp_X7_ruleState (1 : Int32) x6 _) gX7_rule_X7_ruleState rfl (na := 2) (by decide +kernel) rfl ⟨by decide, by decide⟩ (Nat.le_of_ble_eq_true rfl) (Nat.le_of_ble_eq_true rfl) dX7_rule_199 ?_
        obtain ⟨m14, h13, hF⟩ := calv_some hF
        refine aw_cv hK 1 (as := [q_i (P_X7_ruleState (1 : Int32) x6)]) (tr_X1_addEnd h13) gX7_rule_X1_addEnd rfl rfl rfl (by decide) (na := 1) (by decide +kernel) rfl ⟨by decide, by decide⟩ (Nat.le_of_ble_eq_true rfl) (Nat.le_of_ble_eq_true rfl) dX7_rule_202 ?_
        refine aw_sub [0, 1, 2, 3, 4, 5, 6] (lv' := [(0, q_r 0), (1, q_i x1), (2, q_i x2), (3, q_i x3), (4, q_i x4), (5, q_i x5), (6, q_i x6)]) rfl ?_
        exact bk_X7_rule_205 hK hR hrec_72 hF
    · have hF := if_f hF hc
      refine aw_iload hK 7 rfl dX7_rule_88 ?_
      refine aw_iload hK 6 rfl dX7_rule_90 ?_
      refine aw_iload hK 4 rfl dX7_rule_92 ?_
      refine aw_cs hK (as := [q_i x7, q_i x6, q_i x4]) (trp_X7_isAsKnown x7 x6 x4 _) gX7_rule_X7_isAsKnown rfl (na := 3) (by decide +kernel) rfl ⟨by decide, by decide⟩ (Nat.le_of_ble_eq_true rfl) (Nat.le_of_ble_eq_true rfl) dX7_rule_94 ?_
      refine aw_if_eq hK 167 rfl dX7_rule_97 (fun hc => ?_) (fun hc => ?_)
      · have hF := if_t hF hc
        refine aw_sub [0, 1, 2, 3, 4, 5, 6, 7] (lv' := [(0, q_r 0), (1, q_i x1), (2, q_i x2), (3, q_i x3), (4, q_i x4), (5, q_i x5), (6, q_i x6), (7, q_i x7)]) rfl ?_
        exact bk_X7_rule_167 hK hR hrec_72 hrec_81 hF
      · have hF := if_f hF hc
        refine aw_iload_n hK 3 rfl dX7_rule_100 ?_
        refine aw_iconst hK (-1) rfl dX7_rule_101 ?_
        refine aw_icmp_eq hK 111 rfl dX7_rule_102 (fun hc => ?_) (fun hc => ?_)
        · have hF := if_t hF hc
          refine aw_sub [0, 1, 2, 3, 4, 5, 6, 7] (lv' := [(0, q_r 0), (1, q_i x1), (2, q_i x2), (3, q_i x3), (4, q_i x4), (5, q_i x5), (6, q_i x6), (7, q_i x7)]) rfl ?_
          exact bk_X7_rule_111 hK hR hrec_72 hrec_81 hF
        · have hF := if_f hF hc
          refine aw_iload hK 7 rfl dX7_rule_105 ?_
          refine aw_iload_n hK 3 rfl dX7_rule_107 ?_
          refine aw_icmp_ne hK 115 rfl dX7_rule_108 (fun hc => ?_) (fun hc => ?_)
          · have hF := if_f hF hc
            refine aw_iconst hK (0) rfl dX7_rule_115 ?_
            refine aw_sub [0, 1, 2, 3, 4, 5, 6, 7] (lv' := [(0, q_r 0), (1, q_i x1), (2, q_i x2), (3, q_i x3), (4, q_i x4), (5, q_i x5), (6, q_i x6), (7, q_i x7)]) rfl ?_
            exact bk_X7_rule_116 hK hR hrec_72 hrec_81 hF
          · have hF := if_t hF hc
            refine aw_sub [0, 1, 2, 3, 4, 5, 6, 7] (lv' := [(0, q_r 0), (1, q_i x1), (2, q_i x2), (3, q_i x3), (4, q_i x4), (5, q_i x5), (6, q_i x6), (7, q_i x7)]) rfl ?_
            exact bk_X7_rule_111 hK hR hrec_72 hrec_81 hF
def S_X7_rule_72 (N : Nat) (rec_72 : Mem → Int32 → Int32 → Int32 → Int32 → Int32 → Int32 → Option ((Int32 ⊕ Nat) × Mem)) (m : Mem) (x1 : Int32) (x2 : Int32) (x3 : Int32) (x4 : Int32) (x5 : Int32) (x6 : Int32) : Option ((Int32 ⊕ Nat) × Mem) :=
  if (3 : Int32) ≤ x6 then (
    calx (F_X7_keepDraft N m) fun r9 m8 =>
    some (.inl r9, m8)
  ) else (
    L_X7_rule_81 N rec_72 N m x1 x2 x3 x4 x5 x6 (0 : Int32)
  )
def L_X7_rule_72 (N : Nat) : Nat → Mem → Int32 → Int32 → Int32 → Int32 → Int32 → Int32 → Option ((Int32 ⊕ Nat) × Mem)
  | 0 => fun _ _ _ _ _ _ _ => none
  | f + 1 => S_X7_rule_72 N (L_X7_rule_72 N f)
set_option maxRecDepth 100000 in
set_option maxHeartbeats 4000000 in
theorem lp_X7_rule_72 {N : Nat} {K : KT} {m' : Mem} {res : Int32 ⊕ Nat} (hK : KOK K cX7_rule 9 RX7 wsX7_rule 7 2 114) (hR : KX K (some .int) (xo true res) m' 2) : ∀ (f : Nat) {m : Mem} {x1 : Int32} {x2 : Int32} {x3 : Int32} {x4 : Int32} {x5 : Int32} {x6 : Int32}, L_X7_rule_72 N f m x1 x2 x3 x4 x5 x6 = some (res, m') → AW K 1 72 [(0, q_r 0), (1, q_i x1), (2, q_i x2), (3, q_i x3), (4, q_i x4), (5, q_i x5), (6, q_i x6)] [] m := by
  intro f
  induction f with
  | zero => intro m x1 x2 x3 x4 x5 x6 hF; cases hF
  | succ f hrec_72 =>
    intro m x1 x2 x3 x4 x5 x6 hF
    have hF : S_X7_rule_72 N (L_X7_rule_72 N f) m x1 x2 x3 x4 x5 x6 = some (res, m') := hF
    unfold S_X7_rule_72 at hF
    refine aw_iload hK 6 rfl dX7_rule_72 ?_
    refine aw_iconst hK (3) rfl dX7_rule_74 ?_
    refine aw_icmp_ge hK 211 rfl dX7_rule_75 (fun hc => ?_) (fun hc => ?_)
    · have hF := if_t hF hc
      refine aw_aload_n hK 0 rfl dX7_rule_211 ?_
      rcases calx_some hF with ⟨r9, m8, h7, hF⟩ | ⟨x_10, m8, h7, hF⟩
      · refine aw_cvXr hK (kxb hR) 7 (as := []) (trX_X7_keepDraft h7) gX7_rule_X7_keepDraft rfl rfl rfl (by decide) (na := 0) (by decide +kernel) rfl ⟨by decide, by decide⟩ (Nat.le_of_ble_eq_true rfl) (Nat.le_of_ble_eq_true rfl) dX7_rule_212 ?_
        obtain ⟨rfl, rfl⟩ := so_inj hF
        exact aw_iretX hK hR rfl (Nat.le_of_ble_eq_true rfl) dX7_rule_215
      · obtain ⟨rfl, rfl⟩ := Prod.mk.inj hF
        exact aw_cvXx hK hR 7 (as := []) (trX_X7_keepDraft h7) gX7_rule_X7_keepDraft rfl rfl rfl (by decide) (na := 0) (by decide +kernel) rfl ⟨by decide, by decide⟩ (Nat.le_of_ble_eq_true rfl) (Nat.le_of_ble_eq_true rfl) dX7_rule_212
    · have hF := if_f hF hc
      refine aw_iconst hK (0) rfl dX7_rule_78 ?_
      refine aw_istore hK [(7, q_i (0 : Int32)), (0, q_r 0), (1, q_i x1), (2, q_i x2), (3, q_i x3), (4, q_i x4), (5, q_i x5), (6, q_i x6)] (by decide) rfl dX7_rule_79 ?_
      refine aw_sub [1, 2, 3, 4, 5, 6, 7, 0] (lv' := [(0, q_r 0), (1, q_i x1), (2, q_i x2), (3, q_i x3), (4, q_i x4), (5, q_i x5), (6, q_i x6), (7, q_i (0 : Int32))]) rfl ?_
      exact lp_X7_rule_81 hK hR hrec_72 _ hF
def B_X7_rule_62 (N : Nat) (m : Mem) (x1 : Int32) (x2 : Int32) (x3 : Int32) (x4 : Int32) (x5 : Int32) (s0 : Int32) (s1 : Int32) : Option ((Int32 ⊕ Nat) × Mem) :=
  calv (F_X1_begin N m s1 (P_X7_ruleState s0 (0 : Int32))) fun m6 =>
  L_X7_rule_72 N N m6 x1 x2 x3 x4 x5 (0 : Int32)
set_option maxRecDepth 100000 in
set_option maxHeartbeats 4000000 in
theorem bk_X7_rule_62 {N : Nat} {K : KT} {m' : Mem} {res : Int32 ⊕ Nat} (hK : KOK K cX7_rule 9 RX7 wsX7_rule 7 2 114) (hR : KX K (some .int) (xo true res) m' 2) {m : Mem} {x1 : Int32} {x2 : Int32} {x3 : Int32} {x4 : Int32} {x5 : Int32} {s0 : Int32} {s1 : Int32} (hF : B_X7_rule_62 N m x1 x2 x3 x4 x5 s0 s1 = some (res, m')) : AW K 1 62 [(0, q_r 0), (1, q_i x1), (2, q_i x2), (3, q_i x3), (4, q_i x4), (5, q_i x5)] [q_i s0, q_i s1, q_r 3] m := by
  unfold B_X7_rule_62 at hF
  refine aw_iconst hK (0) rfl dX7_rule_62 ?_
  refine aw_cs hK (as := [q_i s0, q_i (0 : Int32)]) (trp_X7_ruleState s0 (0 : Int32) _) gX7_rule_X7_ruleState rfl (na := 2) (by decide +kernel) rfl ⟨by decide, by decide⟩ (Nat.le_of_ble_eq_true rfl) (Nat.le_of_ble_eq_true rfl) dX7_rule_63 ?_
  obtain ⟨m6, h5, hF⟩ := calv_some hF
  refine aw_cv hK 1 (as := [q_i s1, q_i (P_X7_ruleState s0 (0 : Int32))]) (tr_X1_begin h5) gX7_rule_X1_begin rfl rfl rfl (by decide) (na := 2) (by decide +kernel) rfl ⟨by decide, by decide⟩ (Nat.le_of_ble_eq_true rfl) (Nat.le_of_ble_eq_true rfl) dX7_rule_66 ?_
  refine aw_iconst hK (0) rfl dX7_rule_69 ?_
  refine aw_istore hK [(6, q_i (0 : Int32)), (0, q_r 0), (1, q_i x1), (2, q_i x2), (3, q_i x3), (4, q_i x4), (5, q_i x5)] (by decide) rfl dX7_rule_70 ?_
  refine aw_sub [1, 2, 3, 4, 5, 6, 0] (lv' := [(0, q_r 0), (1, q_i x1), (2, q_i x2), (3, q_i x3), (4, q_i x4), (5, q_i x5), (6, q_i (0 : Int32))]) rfl ?_
  exact lp_X7_rule_72 hK hR _ hF
def B_X7_rule_46 (N : Nat) (m : Mem) (x1 : Int32) (x2 : Int32) (x3 : Int32) (x4 : Int32) (x5 : Int32) : Option ((Int32 ⊕ Nat) × Mem) :=
  if x3 = (-1 : Int32) then (
    B_X7_rule_62 N m x1 x2 x3 x4 x5 (1 : Int32) (6 : Int32)
  ) else (
    B_X7_rule_62 N m x1 x2 x3 x4 x5 (0 : Int32) (6 : Int32)
  )
set_option maxRecDepth 100000 in
set_option maxHeartbeats 4000000 in
theorem bk_X7_rule_46 {N : Nat} {K : KT} {m' : Mem} {res : Int32 ⊕ Nat} (hK : KOK K cX7_rule 9 RX7 wsX7_rule 7 2 114) (hR : KX K (some .int) (xo true res) m' 2) {m : Mem} {x1 : Int32} {x2 : Int32} {x3 : Int32} {x4 : Int32} {x5 : Int32} (hF : B_X7_rule_46 N m x1 x2 x3 x4 x5 = some (res, m')) : AW K 1 46 [(0, q_r 0), (1, q_i x1), (2, q_i x2), (3, q_i x3), (4, q_i x4), (5, q_i x5)] [] m := by
  unfold B_X7_rule_46 at hF
  refine aw_aload_n hK 0 rfl dX7_rule_46 ?_
  refine gf_7_4 hK rfl (3) rfl (List.mem_of_getElem? (i := 3) rfl) dX7_rule_47 ?_
  refine aw_bipush hK (6) rfl dX7_rule_50 ?_
  refine aw_iload_n hK 3 rfl dX7_rule_52 ?_
  refine aw_iconst hK (-1) rfl dX7_rule_53 ?_
  refine aw_icmp_ne hK 61 rfl dX7_rule_54 (fun hc => ?_) (fun hc => ?_)
  · have hF := if_f hF hc
    refine aw_iconst hK (0) rfl dX7_rule_61 ?_
    refine aw_sub [0, 1, 2, 3, 4, 5] (lv' := [(0, q_r 0), (1, q_i x1), (2, q_i x2), (3, q_i x3), (4, q_i x4), (5, q_i x5)]) rfl ?_
    exact bk_X7_rule_62 hK hR hF
  · have hF := if_t hF hc
    refine aw_iconst hK (1) rfl dX7_rule_57 ?_
    refine aw_goto hK 62 rfl dX7_rule_58 ?_
    refine aw_sub [0, 1, 2, 3, 4, 5] (lv' := [(0, q_r 0), (1, q_i x1), (2, q_i x2), (3, q_i x3), (4, q_i x4), (5, q_i x5)]) rfl ?_
    exact bk_X7_rule_62 hK hR hF
def B_X7_rule_36 (N : Nat) (m : Mem) : Option ((Int32 ⊕ Nat) × Mem) :=
  some (.inr 1, m)
set_option maxRecDepth 100000 in
set_option maxHeartbeats 4000000 in
theorem bk_X7_rule_36 {N : Nat} {K : KT} {m' : Mem} {res : Int32 ⊕ Nat} (hK : KOK K cX7_rule 9 RX7 wsX7_rule 7 2 114) (hR : KX K (some .int) (xo true res) m' 2) {m : Mem} (hF : B_X7_rule_36 N m = some (res, m')) : AW K 1 36 [] [] m := by
  unfold B_X7_rule_36 at hF
  obtain ⟨rfl, rfl⟩ := so_inj hF
  exact aw_throw (ik := 66) (ic := 70) (x := 1) hK hR (by decide) (List.mem_of_getElem? (i := 1) rfl) (List.mem_of_getElem? (i := 2) rfl) (List.mem_of_getElem? (i := 5) rfl) (by decide +kernel) (by decide +kernel) (by decide +kernel) (by decide +kernel) ⟨by decide, by decide⟩ (Nat.le_of_ble_eq_true rfl) (Nat.le_of_ble_eq_true rfl) dX7_rule_36 dX7_rule_39 dX7_rule_40 dX7_rule_42 dX7_rule_45
def B_X7_rule_24 (N : Nat) (m : Mem) (x1 : Int32) (x2 : Int32) (x3 : Int32) (x4 : Int32) (x5 : Int32) : Option ((Int32 ⊕ Nat) × Mem) :=
  if x4 = (-1 : Int32) then (
    B_X7_rule_36 N m
  ) else (
    if x4 = x1 then (
      B_X7_rule_36 N m
    ) else (
      B_X7_rule_46 N m x1 x2 x3 x4 x5
    )
  )
set_option maxRecDepth 100000 in
set_option maxHeartbeats 4000000 in
theorem bk_X7_rule_24 {N : Nat} {K : KT} {m' : Mem} {res : Int32 ⊕ Nat} (hK : KOK K cX7_rule 9 RX7 wsX7_rule 7 2 114) (hR : KX K (some .int) (xo true res) m' 2) {m : Mem} {x1 : Int32} {x2 : Int32} {x3 : Int32} {x4 : Int32} {x5 : Int32} (hF : B_X7_rule_24 N m x1 x2 x3 x4 x5 = some (res, m')) : AW K 1 24 [(0, q_r 0), (1, q_i x1), (2, q_i x2), (3, q_i x3), (4, q_i x4), (5, q_i x5)] [] m := by
  unfold B_X7_rule_24 at hF
  refine aw_iload hK 4 rfl dX7_rule_24 ?_
  refine aw_iconst hK (-1) rfl dX7_rule_26 ?_
  refine aw_icmp_eq hK 36 rfl dX7_rule_27 (fun hc => ?_) (fun hc => ?_)
  · have hF := if_t hF hc
    refine aw_sub [] (lv' := []) rfl ?_
    exact bk_X7_rule_36 hK hR hF
  · have hF := if_f hF hc
    refine aw_iload hK 4 rfl dX7_rule_30 ?_
    refine aw_iload_n hK 1 rfl dX7_rule_32 ?_
    refine aw_icmp_ne hK 46 rfl dX7_rule_33 (fun hc => ?_) (fun hc => ?_)
    · have hF := if_f hF hc
      refine aw_sub [0, 1, 2, 3, 4, 5] (lv' := [(0, q_r 0), (1, q_i x1), (2, q_i x2), (3, q_i x3), (4, q_i x4), (5, q_i x5)]) rfl ?_
      exact bk_X7_rule_46 hK hR hF
    · have hF := if_t hF hc
      refine aw_sub [] (lv' := []) rfl ?_
      exact bk_X7_rule_36 hK hR hF
def F_X7_rule (N : Nat) (m : Mem) (x1 : Int32) (x2 : Int32) (x3 : Int32) (x4 : Int32) (x5 : Int32) : Option ((Int32 ⊕ Nat) × Mem) :=
  calx (F_X7_needRule N m x1 x2 x3 x4) fun r3 m2 =>
  if x2 = (8 : Int32) then (
    if x3 = (-1 : Int32) then (
      B_X7_rule_24 N m2 x1 x2 x3 x4 x5
    ) else (
      if x3 = x1 then (
        B_X7_rule_24 N m2 x1 x2 x3 x4 x5
      ) else (
        B_X7_rule_46 N m2 x1 x2 x3 x4 x5
      )
    )
  ) else (
    B_X7_rule_46 N m2 x1 x2 x3 x4 x5
  )
set_option maxRecDepth 100000 in
set_option maxHeartbeats 4000000 in
theorem trX_X7_rule {N : Nat} {m m' : Mem} {res : Int32 ⊕ Nat} {x1 : Int32} {x2 : Int32} {x3 : Int32} {x4 : Int32} {x5 : Int32} (hF : F_X7_rule N m x1 x2 x3 x4 x5 = some (res, m')) : TrX yX7_rule wsX7_rule 7 114 2 [q_r 0, q_i x1, q_i x2, q_i x3, q_i x4, q_i x5] m (xo true res) m' := by
  refine trX_of (bytes := cX7_rule) (maxL := 9) (ret := (some .int)) (by decide) rfl (Nat.le_of_ble_eq_true rfl) (fun K hK hR => ?_)
  have hK : KOK K cX7_rule 9 RX7 wsX7_rule 7 2 114 := hK
  show AW K 0 0 [(0, q_r 0), (1, q_i x1), (2, q_i x2), (3, q_i x3), (4, q_i x4), (5, q_i x5)] [] m
  unfold F_X7_rule at hF
  refine aw_iload_n hK 1 rfl dX7_rule_0 ?_
  refine aw_iload_n hK 2 rfl dX7_rule_1 ?_
  refine aw_iload_n hK 3 rfl dX7_rule_2 ?_
  refine aw_iload hK 4 rfl dX7_rule_3 ?_
  rcases calx_some hF with ⟨r3, m2, h1, hF⟩ | ⟨x_4, m2, h1, hF⟩
  · refine aw_csXr hK (kxb hR) (as := [q_i x1, q_i x2, q_i x3, q_i x4]) (trX_X7_needRule h1) gX7_rule_X7_needRule rfl (na := 4) (by decide +kernel) rfl ⟨by decide, by decide⟩ (Nat.le_of_ble_eq_true rfl) (Nat.le_of_ble_eq_true rfl) dX7_rule_5 ?_
    refine aw_iload_n hK 2 rfl dX7_rule_8 ?_
    refine aw_bipush hK (8) rfl dX7_rule_9 ?_
    refine aw_icmp_ne hK 46 rfl dX7_rule_11 (fun hc => ?_) (fun hc => ?_)
    · have hF := if_f hF hc
      refine aw_sub [0, 1, 2, 3, 4, 5] (lv' := [(0, q_r 0), (1, q_i x1), (2, q_i x2), (3, q_i x3), (4, q_i x4), (5, q_i x5)]) rfl ?_
      exact bk_X7_rule_46 hK hR hF
    · have hF := if_t hF hc
      refine aw_iload_n hK 3 rfl dX7_rule_14 ?_
      refine aw_iconst hK (-1) rfl dX7_rule_15 ?_
      refine aw_icmp_eq hK 24 rfl dX7_rule_16 (fun hc => ?_) (fun hc => ?_)
      · have hF := if_t hF hc
        refine aw_sub [0, 1, 2, 3, 4, 5] (lv' := [(0, q_r 0), (1, q_i x1), (2, q_i x2), (3, q_i x3), (4, q_i x4), (5, q_i x5)]) rfl ?_
        exact bk_X7_rule_24 hK hR hF
      · have hF := if_f hF hc
        refine aw_iload_n hK 3 rfl dX7_rule_19 ?_
        refine aw_iload_n hK 1 rfl dX7_rule_20 ?_
        refine aw_icmp_ne hK 46 rfl dX7_rule_21 (fun hc => ?_) (fun hc => ?_)
        · have hF := if_f hF hc
          refine aw_sub [0, 1, 2, 3, 4, 5] (lv' := [(0, q_r 0), (1, q_i x1), (2, q_i x2), (3, q_i x3), (4, q_i x4), (5, q_i x5)]) rfl ?_
          exact bk_X7_rule_46 hK hR hF
        · have hF := if_t hF hc
          refine aw_sub [0, 1, 2, 3, 4, 5] (lv' := [(0, q_r 0), (1, q_i x1), (2, q_i x2), (3, q_i x3), (4, q_i x4), (5, q_i x5)]) rfl ?_
          exact bk_X7_rule_24 hK hR hF
  · obtain ⟨rfl, rfl⟩ := Prod.mk.inj hF
    exact aw_csXx hK hR (as := [q_i x1, q_i x2, q_i x3, q_i x4]) (trX_X7_needRule h1) gX7_rule_X7_needRule rfl (na := 4) (by decide +kernel) rfl ⟨by decide, by decide⟩ (Nat.le_of_ble_eq_true rfl) (Nat.le_of_ble_eq_true rfl) dX7_rule_5
set_option maxRecDepth 100000 in
set_option maxHeartbeats 4000000 in
theorem bkN_X7_rule_205 {N : Nat} {K : KT} {m' : Mem} {rec_72 : Mem → Int32 → Int32 → Int32 → Int32 → Int32 → Int32 → Option ((Int32 ⊕ Nat) × Mem)} {r : Int32} (hK : KOK K cX7_rule 9 RX7 wsX7_rule 7 0 114) (hR : KRet K (some .int) (some r) m') (hrec_72 : ∀ {m : Mem} {x1 : Int32} {x2 : Int32} {x3 : Int32} {x4 : Int32} {x5 : Int32} {x6 : Int32}, rec_72 m x1 x2 x3 x4 x5 x6 = some (.inl r, m') → AW K 0 72 [(0, q_r 0), (1, q_i x1), (2, q_i x2), (3, q_i x3), (4, q_i x4), (5, q_i x5), (6, q_i x6)] [] m) {m : Mem} {x1 : Int32} {x2 : Int32} {x3 : Int32} {x4 : Int32} {x5 : Int32} {x6 : Int32} (hF : B_X7_rule_205 N rec_72 m x1 x2 x3 x4 x5 x6 = some (.inl r, m')) : AW K 0 205 [(0, q_r 0), (1, q_i x1), (2, q_i x2), (3, q_i x3), (4, q_i x4), (5, q_i x5), (6, q_i x6)] [] m := by
  unfold B_X7_rule_205 at hF
  obtain ⟨y22, hy22, hF⟩ := bnd_some hF
  refine aw_iinc hK (cz := 1) 6 [(6, q_i y22), (0, q_r 0), (1, q_i x1), (2, q_i x2), (3, q_i x3), (4, q_i x4), (5, q_i x5)] (by decide) rfl rfl hy22 rfl dX7_rule_205 ?_
  refine aw_goto hK 72 rfl dX7_rule_208 ?_
  refine aw_sub [1, 2, 3, 4, 5, 6, 0] (lv' := [(0, q_r 0), (1, q_i x1), (2, q_i x2), (3, q_i x3), (4, q_i x4), (5, q_i x5), (6, q_i y22)]) rfl ?_
  exact hrec_72 hF
set_option maxRecDepth 100000 in
set_option maxHeartbeats 4000000 in
theorem bkN_X7_rule_167 {N : Nat} {K : KT} {m' : Mem} {rec_72 : Mem → Int32 → Int32 → Int32 → Int32 → Int32 → Int32 → Option ((Int32 ⊕ Nat) × Mem)} {rec_81 : Mem → Int32 → Int32 → Int32 → Int32 → Int32 → Int32 → Int32 → Option ((Int32 ⊕ Nat) × Mem)} {r : Int32} (hK : KOK K cX7_rule 9 RX7 wsX7_rule 7 0 114) (hR : KRet K (some .int) (some r) m') (hrec_72 : ∀ {m : Mem} {x1 : Int32} {x2 : Int32} {x3 : Int32} {x4 : Int32} {x5 : Int32} {x6 : Int32}, rec_72 m x1 x2 x3 x4 x5 x6 = some (.inl r, m') → AW K 0 72 [(0, q_r 0), (1, q_i x1), (2, q_i x2), (3, q_i x3), (4, q_i x4), (5, q_i x5), (6, q_i x6)] [] m) (hrec_81 : ∀ {m : Mem} {x1 : Int32} {x2 : Int32} {x3 : Int32} {x4 : Int32} {x5 : Int32} {x6 : Int32} {x7 : Int32}, rec_81 m x1 x2 x3 x4 x5 x6 x7 = some (.inl r, m') → AW K 0 81 [(0, q_r 0), (1, q_i x1), (2, q_i x2), (3, q_i x3), (4, q_i x4), (5, q_i x5), (6, q_i x6), (7, q_i x7)] [] m) {m : Mem} {x1 : Int32} {x2 : Int32} {x3 : Int32} {x4 : Int32} {x5 : Int32} {x6 : Int32} {x7 : Int32} (hF : B_X7_rule_167 N rec_72 rec_81 m x1 x2 x3 x4 x5 x6 x7 = some (.inl r, m')) : AW K 0 167 [(0, q_r 0), (1, q_i x1), (2, q_i x2), (3, q_i x3), (4, q_i x4), (5, q_i x5), (6, q_i x6), (7, q_i x7)] [] m := by
  unfold B_X7_rule_167 at hF
  obtain ⟨y21, hy21, hF⟩ := bnd_some hF
  refine aw_iinc hK (cz := 1) 7 [(7, q_i y21), (0, q_r 0), (1, q_i x1), (2, q_i x2), (3, q_i x3), (4, q_i x4), (5, q_i x5), (6, q_i x6)] (by decide) rfl rfl hy21 rfl dX7_rule_167 ?_
  refine aw_goto hK 81 rfl dX7_rule_170 ?_
  refine aw_sub [1, 2, 3, 4, 5, 6, 7, 0] (lv' := [(0, q_r 0), (1, q_i x1), (2, q_i x2), (3, q_i x3), (4, q_i x4), (5, q_i x5), (6, q_i x6), (7, q_i y21)]) rfl ?_
  exact hrec_81 hF
set_option maxRecDepth 100000 in
set_option maxHeartbeats 4000000 in
theorem bkN_X7_rule_116 {N : Nat} {K : KT} {m' : Mem} {rec_72 : Mem → Int32 → Int32 → Int32 → Int32 → Int32 → Int32 → Option ((Int32 ⊕ Nat) × Mem)} {rec_81 : Mem → Int32 → Int32 → Int32 → Int32 → Int32 → Int32 → Int32 → Option ((Int32 ⊕ Nat) × Mem)} {r : Int32} (hK : KOK K cX7_rule 9 RX7 wsX7_rule 7 0 114) (hR : KRet K (some .int) (some r) m') (hrec_72 : ∀ {m : Mem} {x1 : Int32} {x2 : Int32} {x3 : Int32} {x4 : Int32} {x5 : Int32} {x6 : Int32}, rec_72 m x1 x2 x3 x4 x5 x6 = some (.inl r, m') → AW K 0 72 [(0, q_r 0), (1, q_i x1), (2, q_i x2), (3, q_i x3), (4, q_i x4), (5, q_i x5), (6, q_i x6)] [] m) (hrec_81 : ∀ {m : Mem} {x1 : Int32} {x2 : Int32} {x3 : Int32} {x4 : Int32} {x5 : Int32} {x6 : Int32} {x7 : Int32}, rec_81 m x1 x2 x3 x4 x5 x6 x7 = some (.inl r, m') → AW K 0 81 [(0, q_r 0), (1, q_i x1), (2, q_i x2), (3, q_i x3), (4, q_i x4), (5, q_i x5), (6, q_i x6), (7, q_i x7)] [] m) {m : Mem} {x1 : Int32} {x2 : Int32} {x3 : Int32} {x4 : Int32} {x5 : Int32} {x6 : Int32} {x7 : Int32} {s0 : Int32} (hF : B_X7_rule_116 N rec_72 rec_81 m x1 x2 x3 x4 x5 x6 x7 s0 = some (.inl r, m')) : AW K 0 116 [(0, q_r 0), (1, q_i x1), (2, q_i x2), (3, q_i x3), (4, q_i x4), (5, q_i x5), (6, q_i x6), (7, q_i x7)] [q_i s0] m := by
  unfold B_X7_rule_116 at hF
  refine aw_istore hK [(8, q_i s0), (0, q_r 0), (1, q_i x1), (2, q_i x2), (3, q_i x3), (4, q_i x4), (5, q_i x5), (6, q_i x6), (7, q_i x7)] (by decide) rfl dX7_rule_116 ?_
  refine aw_aload_n hK 1 rfl dX7_rule_118 ?_
  refine aw_iconst hK (0) rfl dX7_rule_119 ?_
  refine aw_iload hK 7 rfl dX7_rule_120 ?_
  refine aw_iload hK 8 rfl dX7_rule_122 ?_
  refine aw_iload hK 0 rfl dX7_rule_124 ?_
  obtain ⟨m16, h15, hF⟩ := calv_some hF
  refine aw_cv hK 7 (as := [q_i (0 : Int32), q_i x6, q_i x7, q_i s0]) (tr_X7_addCopy h15) gX7_rule_X7_addCopy rfl rfl rfl (by decide) (na := 4) (by decide +kernel) rfl ⟨by decide, by decide⟩ (Nat.zero_le _) (Nat.le_of_ble_eq_true rfl) dX7_rule_126 ?_
  refine aw_iload hK 8 rfl dX7_rule_129 ?_
  refine aw_iload_n hK 2 rfl dX7_rule_131 ?_
  refine aw_icmp_eq hK 149 rfl dX7_rule_132 (fun hc => ?_) (fun hc => ?_)
  · have hF := if_t hF hc
    refine aw_aload_n hK 1 rfl dX7_rule_149 ?_
    refine aw_iconst hK (1) rfl dX7_rule_150 ?_
    refine aw_iload hK 7 rfl dX7_rule_151 ?_
    refine aw_cs hK (as := [q_i (1 : Int32), q_i x6]) (trp_X7_ruleState (1 : Int32) x6 _) gX7_rule_X7_ruleState rfl (na := 2) (by decide +kernel) rfl ⟨by decide, by decide⟩ (Nat.zero_le _) (Nat.le_of_ble_eq_true rfl) dX7_rule_153 ?_
    refine aw_iload_n hK 2 rfl dX7_rule_156 ?_
    refine aw_iload_n hK 3 rfl dX7_rule_157 ?_
    refine aw_iload hK 5 rfl dX7_rule_158 ?_
    refine aw_iload hK 0 rfl dX7_rule_160 ?_
    refine aw_iload hK 6 rfl dX7_rule_162 ?_
    obtain ⟨m18, h17, hF⟩ := calv_some hF
    refine aw_cv hK 7 (as := [q_i (P_X7_ruleState (1 : Int32) x6), q_i x1, q_i x2, q_i x4, q_i s0, q_i x5]) (tr_X7_addRewriting h17) gX7_rule_X7_addRewriting rfl rfl rfl (by decide) (na := 6) (by decide +kernel) rfl ⟨by decide, by decide⟩ (Nat.zero_le _) (Nat.le_of_ble_eq_true rfl) dX7_rule_164 ?_
    refine aw_sub [1, 2, 3, 4, 5, 6, 7, 8] (lv' := [(0, q_r 0), (1, q_i x1), (2, q_i x2), (3, q_i x3), (4, q_i x4), (5, q_i x5), (6, q_i x6), (7, q_i x7)]) rfl ?_
    exact bkN_X7_rule_167 hK hR hrec_72 hrec_81 hF
  · have hF := if_f hF hc
    refine aw_aload_n hK 1 rfl dX7_rule_135 ?_
    refine aw_iconst hK (1) rfl dX7_rule_136 ?_
    refine aw_iload hK 7 rfl dX7_rule_137 ?_
    refine aw_iload hK 8 rfl dX7_rule_139 ?_
    refine aw_iload hK 0 rfl dX7_rule_141 ?_
    obtain ⟨m20, h19, hF⟩ := calv_some hF
    refine aw_cv hK 7 (as := [q_i (1 : Int32), q_i x6, q_i x7, q_i s0]) (tr_X7_addCopy h19) gX7_rule_X7_addCopy rfl rfl rfl (by decide) (na := 4) (by decide +kernel) rfl ⟨by decide, by decide⟩ (Nat.zero_le _) (Nat.le_of_ble_eq_true rfl) dX7_rule_143 ?_
    refine aw_goto hK 167 rfl dX7_rule_146 ?_
    refine aw_sub [1, 2, 3, 4, 5, 6, 7, 8] (lv' := [(0, q_r 0), (1, q_i x1), (2, q_i x2), (3, q_i x3), (4, q_i x4), (5, q_i x5), (6, q_i x6), (7, q_i x7)]) rfl ?_
    exact bkN_X7_rule_167 hK hR hrec_72 hrec_81 hF
set_option maxRecDepth 100000 in
set_option maxHeartbeats 4000000 in
theorem bkN_X7_rule_111 {N : Nat} {K : KT} {m' : Mem} {rec_72 : Mem → Int32 → Int32 → Int32 → Int32 → Int32 → Int32 → Option ((Int32 ⊕ Nat) × Mem)} {rec_81 : Mem → Int32 → Int32 → Int32 → Int32 → Int32 → Int32 → Int32 → Option ((Int32 ⊕ Nat) × Mem)} {r : Int32} (hK : KOK K cX7_rule 9 RX7 wsX7_rule 7 0 114) (hR : KRet K (some .int) (some r) m') (hrec_72 : ∀ {m : Mem} {x1 : Int32} {x2 : Int32} {x3 : Int32} {x4 : Int32} {x5 : Int32} {x6 : Int32}, rec_72 m x1 x2 x3 x4 x5 x6 = some (.inl r, m') → AW K 0 72 [(0, q_r 0), (1, q_i x1), (2, q_i x2), (3, q_i x3), (4, q_i x4), (5, q_i x5), (6, q_i x6)] [] m) (hrec_81 : ∀ {m : Mem} {x1 : Int32} {x2 : Int32} {x3 : Int32} {x4 : Int32} {x5 : Int32} {x6 : Int32} {x7 : Int32}, rec_81 m x1 x2 x3 x4 x5 x6 x7 = some (.inl r, m') → AW K 0 81 [(0, q_r 0), (1, q_i x1), (2, q_i x2), (3, q_i x3), (4, q_i x4), (5, q_i x5), (6, q_i x6), (7, q_i x7)] [] m) {m : Mem} {x1 : Int32} {x2 : Int32} {x3 : Int32} {x4 : Int32} {x5 : Int32} {x6 : Int32} {x7 : Int32} (hF : B_X7_rule_111 N rec_72 rec_81 m x1 x2 x3 x4 x5 x6 x7 = some (.inl r, m')) : AW K 0 111 [(0, q_r 0), (1, q_i x1), (2, q_i x2), (3, q_i x3), (4, q_i x4), (5, q_i x5), (6, q_i x6), (7, q_i x7)] [] m := by
  unfold B_X7_rule_111 at hF
  refine aw_iconst hK (1) rfl dX7_rule_111 ?_
  refine aw_goto hK 116 rfl dX7_rule_112 ?_
  refine aw_sub [0, 1, 2, 3, 4, 5, 6, 7] (lv' := [(0, q_r 0), (1, q_i x1), (2, q_i x2), (3, q_i x3), (4, q_i x4), (5, q_i x5), (6, q_i x6), (7, q_i x7)]) rfl ?_
  exact bkN_X7_rule_116 hK hR hrec_72 hrec_81 hF
set_option maxRecDepth 100000 in
set_option maxHeartbeats 4000000 in
theorem lpN_X7_rule_81 {N : Nat} {K : KT} {m' : Mem} {rec_72 : Mem → Int32 → Int32 → Int32 → Int32 → Int32 → Int32 → Option ((Int32 ⊕ Nat) × Mem)} {r : Int32} (hK : KOK K cX7_rule 9 RX7 wsX7_rule 7 0 114) (hR : KRet K (some .int) (some r) m') (hrec_72 : ∀ {m : Mem} {x1 : Int32} {x2 : Int32} {x3 : Int32} {x4 : Int32} {x5 : Int32} {x6 : Int32}, rec_72 m x1 x2 x3 x4 x5 x6 = some (.inl r, m') → AW K 0 72 [(0, q_r 0), (1, q_i x1), (2, q_i x2), (3, q_i x3), (4, q_i x4), (5, q_i x5), (6, q_i x6)] [] m) : ∀ (f : Nat) {m : Mem} {x1 : Int32} {x2 : Int32} {x3 : Int32} {x4 : Int32} {x5 : Int32} {x6 : Int32} {x7 : Int32}, L_X7_rule_81 N rec_72 f m x1 x2 x3 x4 x5 x6 x7 = some (.inl r, m') → AW K 0 81 [(0, q_r 0), (1, q_i x1), (2, q_i x2), (3, q_i x3), (4, q_i x4), (5, q_i x5), (6, q_i x6), (7, q_i x7)] [] m := by
  intro f
  induction f with
  | zero => intro m x1 x2 x3 x4 x5 x6 x7 hF; cases hF
  | succ f hrec_81 =>
    intro m x1 x2 x3 x4 x5 x6 x7 hF
    have hF : S_X7_rule_81 N rec_72 (L_X7_rule_81 N rec_72 f) m x1 x2 x3 x4 x5 x6 x7 = some (.inl r, m') := hF
    unfold S_X7_rule_81 at hF
    refine aw_iload hK 7 rfl dX7_rule_81 ?_
    refine aw_bipush hK (8) rfl dX7_rule_83 ?_
    refine aw_icmp_ge hK 173 rfl dX7_rule_85 (fun hc => ?_) (fun hc => ?_)
    · have hF := if_t hF hc
      refine aw_iload hK 6 rfl dX7_rule_173 ?_
      refine aw_iconst hK (1) rfl dX7_rule_175 ?_
      refine aw_icmp_eq hK 205 rfl dX7_rule_176 (fun hc => ?_) (fun hc => ?_)
      · have hF := if_t hF hc
        refine aw_sub [0, 1, 2, 3, 4, 5, 6] (lv' := [(0, q_r 0), (1, q_i x1), (2, q_i x2), (3, q_i x3), (4, q_i x4), (5, q_i x5), (6, q_i x6)]) rfl ?_
        exact bkN_X7_rule_205 hK hR hrec_72 hF
      · have hF := if_f hF hc
        refine aw_aload_n hK 0 rfl dX7_rule_179 ?_
        refine gf_7_4 hK rfl (3) rfl (List.mem_of_getElem? (i := 3) rfl) dX7_rule_180 ?_
        refine aw_iconst hK (0) rfl dX7_rule_183 ?_
        refine aw_iload hK 6 rfl dX7_rule_184 ?_
        refine aw_cs hK (as := [q_i (0 : Int32), q_i x6]) (trp_X7_ruleState (0 : Int32) x6 _) gX7_rule_X7_ruleState rfl (na := 2) (by decide +kernel) rfl ⟨by decide, by decide⟩ (Nat.zero_le _) (Nat.le_of_ble_eq_true rfl) dX7_rule_186 ?_
        obtain ⟨m12, h11, hF⟩ := calv_some hF
        refine aw_cv hK 1 (as := [q_i (P_X7_ruleState (0 : Int32) x6)]) (tr_X1_addEnd h11) gX7_rule_X1_addEnd rfl rfl rfl (by decide) (na := 1) (by decide +kernel) rfl ⟨by decide, by decide⟩ (Nat.zero_le _) (Nat.le_of_ble_eq_true rfl) dX7_rule_189 ?_
        refine aw_aload_n hK 0 rfl dX7_rule_192 ?_
        refine gf_7_4 hK rfl (3) rfl (List.mem_of_getElem? (i := 3) rfl) dX7_rule_193 ?_
        refine aw_iconst hK (1) rfl dX7_rule_196 ?_
        refine aw_iload hK 6 rfl dX7_rule_197 ?_
        refine aw_cs hK (as := [q_i (1 : Int32), q_i x6]) (trp_X7_ruleState (1 : Int32) x6 _) gX7_rule_X7_ruleState rfl (na := 2) (by decide +kernel) rfl ⟨by decide, by decide⟩ (Nat.zero_le _) (Nat.le_of_ble_eq_true rfl) dX7_rule_199 ?_
        obtain ⟨m14, h13, hF⟩ := calv_some hF
        refine aw_cv hK 1 (as := [q_i (P_X7_ruleState (1 : Int32) x6)]) (tr_X1_addEnd h13) gX7_rule_X1_addEnd rfl rfl rfl (by decide) (na := 1) (by decide +kernel) rfl ⟨by decide, by decide⟩ (Nat.zero_le _) (Nat.le_of_ble_eq_true rfl) dX7_rule_202 ?_
        refine aw_sub [0, 1, 2, 3, 4, 5, 6] (lv' := [(0, q_r 0), (1, q_i x1), (2, q_i x2), (3, q_i x3), (4, q_i x4), (5, q_i x5), (6, q_i x6)]) rfl ?_
        exact bkN_X7_rule_205 hK hR hrec_72 hF
    · have hF := if_f hF hc
      refine aw_iload hK 7 rfl dX7_rule_88 ?_
      refine aw_iload hK 6 rfl dX7_rule_90 ?_
      refine aw_iload hK 4 rfl dX7_rule_92 ?_
      refine aw_cs hK (as := [q_i x7, q_i x6, q_i x4]) (trp_X7_isAsKnown x7 x6 x4 _) gX7_rule_X7_isAsKnown rfl (na := 3) (by decide +kernel) rfl ⟨by decide, by decide⟩ (Nat.zero_le _) (Nat.le_of_ble_eq_true rfl) dX7_rule_94 ?_
      refine aw_if_eq hK 167 rfl dX7_rule_97 (fun hc => ?_) (fun hc => ?_)
      · have hF := if_t hF hc
        refine aw_sub [0, 1, 2, 3, 4, 5, 6, 7] (lv' := [(0, q_r 0), (1, q_i x1), (2, q_i x2), (3, q_i x3), (4, q_i x4), (5, q_i x5), (6, q_i x6), (7, q_i x7)]) rfl ?_
        exact bkN_X7_rule_167 hK hR hrec_72 hrec_81 hF
      · have hF := if_f hF hc
        refine aw_iload_n hK 3 rfl dX7_rule_100 ?_
        refine aw_iconst hK (-1) rfl dX7_rule_101 ?_
        refine aw_icmp_eq hK 111 rfl dX7_rule_102 (fun hc => ?_) (fun hc => ?_)
        · have hF := if_t hF hc
          refine aw_sub [0, 1, 2, 3, 4, 5, 6, 7] (lv' := [(0, q_r 0), (1, q_i x1), (2, q_i x2), (3, q_i x3), (4, q_i x4), (5, q_i x5), (6, q_i x6), (7, q_i x7)]) rfl ?_
          exact bkN_X7_rule_111 hK hR hrec_72 hrec_81 hF
        · have hF := if_f hF hc
          refine aw_iload hK 7 rfl dX7_rule_105 ?_
          refine aw_iload_n hK 3 rfl dX7_rule_107 ?_
          refine aw_icmp_ne hK 115 rfl dX7_rule_108 (fun hc => ?_) (fun hc => ?_)
          · have hF := if_f hF hc
            refine aw_iconst hK (0) rfl dX7_rule_115 ?_
            refine aw_sub [0, 1, 2, 3, 4, 5, 6, 7] (lv' := [(0, q_r 0), (1, q_i x1), (2, q_i x2), (3, q_i x3), (4, q_i x4), (5, q_i x5), (6, q_i x6), (7, q_i x7)]) rfl ?_
            exact bkN_X7_rule_116 hK hR hrec_72 hrec_81 hF
          · have hF := if_t hF hc
            refine aw_sub [0, 1, 2, 3, 4, 5, 6, 7] (lv' := [(0, q_r 0), (1, q_i x1), (2, q_i x2), (3, q_i x3), (4, q_i x4), (5, q_i x5), (6, q_i x6), (7, q_i x7)]) rfl ?_
            exact bkN_X7_rule_111 hK hR hrec_72 hrec_81 hF
set_option maxRecDepth 100000 in
set_option maxHeartbeats 4000000 in
theorem lpN_X7_rule_72 {N : Nat} {K : KT} {m' : Mem} {r : Int32} (hK : KOK K cX7_rule 9 RX7 wsX7_rule 7 0 114) (hR : KRet K (some .int) (some r) m') : ∀ (f : Nat) {m : Mem} {x1 : Int32} {x2 : Int32} {x3 : Int32} {x4 : Int32} {x5 : Int32} {x6 : Int32}, L_X7_rule_72 N f m x1 x2 x3 x4 x5 x6 = some (.inl r, m') → AW K 0 72 [(0, q_r 0), (1, q_i x1), (2, q_i x2), (3, q_i x3), (4, q_i x4), (5, q_i x5), (6, q_i x6)] [] m := by
  intro f
  induction f with
  | zero => intro m x1 x2 x3 x4 x5 x6 hF; cases hF
  | succ f hrec_72 =>
    intro m x1 x2 x3 x4 x5 x6 hF
    have hF : S_X7_rule_72 N (L_X7_rule_72 N f) m x1 x2 x3 x4 x5 x6 = some (.inl r, m') := hF
    unfold S_X7_rule_72 at hF
    refine aw_iload hK 6 rfl dX7_rule_72 ?_
    refine aw_iconst hK (3) rfl dX7_rule_74 ?_
    refine aw_icmp_ge hK 211 rfl dX7_rule_75 (fun hc => ?_) (fun hc => ?_)
    · have hF := if_t hF hc
      refine aw_aload_n hK 0 rfl dX7_rule_211 ?_
      rcases calx_some hF with ⟨r9, m8, h7, hF⟩ | ⟨x_10, m8, h7, hF⟩
      · refine aw_cv hK 7 (as := []) (trN_X7_keepDraft h7) gX7_rule_X7_keepDraft rfl rfl rfl (by decide) (na := 0) (by decide +kernel) rfl ⟨by decide, by decide⟩ (Nat.zero_le _) (Nat.le_of_ble_eq_true rfl) dX7_rule_212 ?_
        obtain ⟨e1, rfl⟩ := so_inj hF
        cases e1
        exact aw_iret hK hR rfl dX7_rule_215
      · cases hF
    · have hF := if_f hF hc
      refine aw_iconst hK (0) rfl dX7_rule_78 ?_
      refine aw_istore hK [(7, q_i (0 : Int32)), (0, q_r 0), (1, q_i x1), (2, q_i x2), (3, q_i x3), (4, q_i x4), (5, q_i x5), (6, q_i x6)] (by decide) rfl dX7_rule_79 ?_
      refine aw_sub [1, 2, 3, 4, 5, 6, 7, 0] (lv' := [(0, q_r 0), (1, q_i x1), (2, q_i x2), (3, q_i x3), (4, q_i x4), (5, q_i x5), (6, q_i x6), (7, q_i (0 : Int32))]) rfl ?_
      exact lpN_X7_rule_81 hK hR hrec_72 _ hF
set_option maxRecDepth 100000 in
set_option maxHeartbeats 4000000 in
theorem bkN_X7_rule_62 {N : Nat} {K : KT} {m' : Mem} {r : Int32} (hK : KOK K cX7_rule 9 RX7 wsX7_rule 7 0 114) (hR : KRet K (some .int) (some r) m') {m : Mem} {x1 : Int32} {x2 : Int32} {x3 : Int32} {x4 : Int32} {x5 : Int32} {s0 : Int32} {s1 : Int32} (hF : B_X7_rule_62 N m x1 x2 x3 x4 x5 s0 s1 = some (.inl r, m')) : AW K 0 62 [(0, q_r 0), (1, q_i x1), (2, q_i x2), (3, q_i x3), (4, q_i x4), (5, q_i x5)] [q_i s0, q_i s1, q_r 3] m := by
  unfold B_X7_rule_62 at hF
  refine aw_iconst hK (0) rfl dX7_rule_62 ?_
  refine aw_cs hK (as := [q_i s0, q_i (0 : Int32)]) (trp_X7_ruleState s0 (0 : Int32) _) gX7_rule_X7_ruleState rfl (na := 2) (by decide +kernel) rfl ⟨by decide, by decide⟩ (Nat.zero_le _) (Nat.le_of_ble_eq_true rfl) dX7_rule_63 ?_
  obtain ⟨m6, h5, hF⟩ := calv_some hF
  refine aw_cv hK 1 (as := [q_i s1, q_i (P_X7_ruleState s0 (0 : Int32))]) (tr_X1_begin h5) gX7_rule_X1_begin rfl rfl rfl (by decide) (na := 2) (by decide +kernel) rfl ⟨by decide, by decide⟩ (Nat.zero_le _) (Nat.le_of_ble_eq_true rfl) dX7_rule_66 ?_
  refine aw_iconst hK (0) rfl dX7_rule_69 ?_
  refine aw_istore hK [(6, q_i (0 : Int32)), (0, q_r 0), (1, q_i x1), (2, q_i x2), (3, q_i x3), (4, q_i x4), (5, q_i x5)] (by decide) rfl dX7_rule_70 ?_
  refine aw_sub [1, 2, 3, 4, 5, 6, 0] (lv' := [(0, q_r 0), (1, q_i x1), (2, q_i x2), (3, q_i x3), (4, q_i x4), (5, q_i x5), (6, q_i (0 : Int32))]) rfl ?_
  exact lpN_X7_rule_72 hK hR _ hF
set_option maxRecDepth 100000 in
set_option maxHeartbeats 4000000 in
theorem bkN_X7_rule_46 {N : Nat} {K : KT} {m' : Mem} {r : Int32} (hK : KOK K cX7_rule 9 RX7 wsX7_rule 7 0 114) (hR : KRet K (some .int) (some r) m') {m : Mem} {x1 : Int32} {x2 : Int32} {x3 : Int32} {x4 : Int32} {x5 : Int32} (hF : B_X7_rule_46 N m x1 x2 x3 x4 x5 = some (.inl r, m')) : AW K 0 46 [(0, q_r 0), (1, q_i x1), (2, q_i x2), (3, q_i x3), (4, q_i x4), (5, q_i x5)] [] m := by
  unfold B_X7_rule_46 at hF
  refine aw_aload_n hK 0 rfl dX7_rule_46 ?_
  refine gf_7_4 hK rfl (3) rfl (List.mem_of_getElem? (i := 3) rfl) dX7_rule_47 ?_
  refine aw_bipush hK (6) rfl dX7_rule_50 ?_
  refine aw_iload_n hK 3 rfl dX7_rule_52 ?_
  refine aw_iconst hK (-1) rfl dX7_rule_53 ?_
  refine aw_icmp_ne hK 61 rfl dX7_rule_54 (fun hc => ?_) (fun hc => ?_)
  · have hF := if_f hF hc
    refine aw_iconst hK (0) rfl dX7_rule_61 ?_
    refine aw_sub [0, 1, 2, 3, 4, 5] (lv' := [(0, q_r 0), (1, q_i x1), (2, q_i x2), (3, q_i x3), (4, q_i x4), (5, q_i x5)]) rfl ?_
    exact bkN_X7_rule_62 hK hR hF
  · have hF := if_t hF hc
    refine aw_iconst hK (1) rfl dX7_rule_57 ?_
    refine aw_goto hK 62 rfl dX7_rule_58 ?_
    refine aw_sub [0, 1, 2, 3, 4, 5] (lv' := [(0, q_r 0), (1, q_i x1), (2, q_i x2), (3, q_i x3), (4, q_i x4), (5, q_i x5)]) rfl ?_
    exact bkN_X7_rule_62 hK hR hF
set_option maxRecDepth 100000 in
set_option maxHeartbeats 4000000 in
theorem bkN_X7_rule_36 {N : Nat} {K : KT} {m' : Mem} {r : Int32} (hK : KOK K cX7_rule 9 RX7 wsX7_rule 7 0 114) (hR : KRet K (some .int) (some r) m') {m : Mem} (hF : B_X7_rule_36 N m = some (.inl r, m')) : AW K 0 36 [] [] m := by
  unfold B_X7_rule_36 at hF
  cases hF
set_option maxRecDepth 100000 in
set_option maxHeartbeats 4000000 in
theorem bkN_X7_rule_24 {N : Nat} {K : KT} {m' : Mem} {r : Int32} (hK : KOK K cX7_rule 9 RX7 wsX7_rule 7 0 114) (hR : KRet K (some .int) (some r) m') {m : Mem} {x1 : Int32} {x2 : Int32} {x3 : Int32} {x4 : Int32} {x5 : Int32} (hF : B_X7_rule_24 N m x1 x2 x3 x4 x5 = some (.inl r, m')) : AW K 0 24 [(0, q_r 0), (1, q_i x1), (2, q_i x2), (3, q_i x3), (4, q_i x4), (5, q_i x5)] [] m := by
  unfold B_X7_rule_24 at hF
  refine aw_iload hK 4 rfl dX7_rule_24 ?_
  refine aw_iconst hK (-1) rfl dX7_rule_26 ?_
  refine aw_icmp_eq hK 36 rfl dX7_rule_27 (fun hc => ?_) (fun hc => ?_)
  · have hF := if_t hF hc
    refine aw_sub [] (lv' := []) rfl ?_
    exact bkN_X7_rule_36 hK hR hF
  · have hF := if_f hF hc
    refine aw_iload hK 4 rfl dX7_rule_30 ?_
    refine aw_iload_n hK 1 rfl dX7_rule_32 ?_
    refine aw_icmp_ne hK 46 rfl dX7_rule_33 (fun hc => ?_) (fun hc => ?_)
    · have hF := if_f hF hc
      refine aw_sub [0, 1, 2, 3, 4, 5] (lv' := [(0, q_r 0), (1, q_i x1), (2, q_i x2), (3, q_i x3), (4, q_i x4), (5, q_i x5)]) rfl ?_
      exact bkN_X7_rule_46 hK hR hF
    · have hF := if_t hF hc
      refine aw_sub [] (lv' := []) rfl ?_
      exact bkN_X7_rule_36 hK hR hF
set_option maxRecDepth 100000 in
set_option maxHeartbeats 4000000 in
theorem trN_X7_rule {N : Nat} {m m' : Mem} {r : Int32} {x1 : Int32} {x2 : Int32} {x3 : Int32} {x4 : Int32} {x5 : Int32} (hF : F_X7_rule N m x1 x2 x3 x4 x5 = some (.inl r, m')) : Tr yX7_rule wsX7_rule 7 114 [q_r 0, q_i x1, q_i x2, q_i x3, q_i x4, q_i x5] m (some r) m' := by
  refine tr_of (bytes := cX7_rule) (maxL := 9) (ret := (some .int)) (by decide) rfl (Nat.le_of_ble_eq_true rfl) (fun K hK hR => ?_)
  have hK : KOK K cX7_rule 9 RX7 wsX7_rule 7 0 114 := hK
  show AW K 0 0 [(0, q_r 0), (1, q_i x1), (2, q_i x2), (3, q_i x3), (4, q_i x4), (5, q_i x5)] [] m
  unfold F_X7_rule at hF
  refine aw_iload_n hK 1 rfl dX7_rule_0 ?_
  refine aw_iload_n hK 2 rfl dX7_rule_1 ?_
  refine aw_iload_n hK 3 rfl dX7_rule_2 ?_
  refine aw_iload hK 4 rfl dX7_rule_3 ?_
  rcases calx_some hF with ⟨r3, m2, h1, hF⟩ | ⟨x_4, m2, h1, hF⟩
  · refine aw_cs hK (as := [q_i x1, q_i x2, q_i x3, q_i x4]) (trN_X7_needRule h1) gX7_rule_X7_needRule rfl (na := 4) (by decide +kernel) rfl ⟨by decide, by decide⟩ (Nat.zero_le _) (Nat.le_of_ble_eq_true rfl) dX7_rule_5 ?_
    refine aw_iload_n hK 2 rfl dX7_rule_8 ?_
    refine aw_bipush hK (8) rfl dX7_rule_9 ?_
    refine aw_icmp_ne hK 46 rfl dX7_rule_11 (fun hc => ?_) (fun hc => ?_)
    · have hF := if_f hF hc
      refine aw_sub [0, 1, 2, 3, 4, 5] (lv' := [(0, q_r 0), (1, q_i x1), (2, q_i x2), (3, q_i x3), (4, q_i x4), (5, q_i x5)]) rfl ?_
      exact bkN_X7_rule_46 hK hR hF
    · have hF := if_t hF hc
      refine aw_iload_n hK 3 rfl dX7_rule_14 ?_
      refine aw_iconst hK (-1) rfl dX7_rule_15 ?_
      refine aw_icmp_eq hK 24 rfl dX7_rule_16 (fun hc => ?_) (fun hc => ?_)
      · have hF := if_t hF hc
        refine aw_sub [0, 1, 2, 3, 4, 5] (lv' := [(0, q_r 0), (1, q_i x1), (2, q_i x2), (3, q_i x3), (4, q_i x4), (5, q_i x5)]) rfl ?_
        exact bkN_X7_rule_24 hK hR hF
      · have hF := if_f hF hc
        refine aw_iload_n hK 3 rfl dX7_rule_19 ?_
        refine aw_iload_n hK 1 rfl dX7_rule_20 ?_
        refine aw_icmp_ne hK 46 rfl dX7_rule_21 (fun hc => ?_) (fun hc => ?_)
        · have hF := if_f hF hc
          refine aw_sub [0, 1, 2, 3, 4, 5] (lv' := [(0, q_r 0), (1, q_i x1), (2, q_i x2), (3, q_i x3), (4, q_i x4), (5, q_i x5)]) rfl ?_
          exact bkN_X7_rule_46 hK hR hF
        · have hF := if_t hF hc
          refine aw_sub [0, 1, 2, 3, 4, 5] (lv' := [(0, q_r 0), (1, q_i x1), (2, q_i x2), (3, q_i x3), (4, q_i x4), (5, q_i x5)]) rfl ?_
          exact bkN_X7_rule_24 hK hR hF
  · cases hF
def F_X7_size (N : Nat) (m : Mem) (x1 : Int32) : Option ((Int32 ⊕ Nat) × Mem) :=
  calx (F_X7_needMachine N m x1) fun r3 m2 =>
  gd (inb x1 (alen 2)) <|
  gd (inb x1 (alen 2)) <|
  some (.inl (((1000 : Int32) * (m2 (200 + 4 * ix x1) 1)) + (m2 ((200 + 4 * ix x1) + 1) 2)), m2)
set_option maxRecDepth 100000 in
set_option maxHeartbeats 4000000 in
theorem trX_X7_size {N : Nat} {m m' : Mem} {res : Int32 ⊕ Nat} {x1 : Int32} (hF : F_X7_size N m x1 = some (res, m')) : TrX yX7_size wsX7_size 7 111 1 [q_r 0, q_i x1] m (xo true res) m' := by
  refine trX_of (bytes := cX7_size) (maxL := 2) (ret := (some .int)) (by decide) rfl (Nat.le_of_ble_eq_true rfl) (fun K hK hR => ?_)
  have hK : KOK K cX7_size 2 RX7 wsX7_size 7 1 111 := hK
  show AW K 0 0 [(0, q_r 0), (1, q_i x1)] [] m
  unfold F_X7_size at hF
  refine aw_aload_n hK 0 rfl dX7_size_0 ?_
  refine aw_iload_n hK 1 rfl dX7_size_1 ?_
  rcases calx_some hF with ⟨r3, m2, h1, hF⟩ | ⟨x_4, m2, h1, hF⟩
  · refine aw_cvXr hK (kxb hR) 7 (as := [q_i x1]) (trX_X7_needMachine h1) gX7_size_X7_needMachine rfl rfl rfl (by decide) (na := 1) (by decide +kernel) rfl ⟨by decide, by decide⟩ (Nat.le_of_ble_eq_true rfl) (Nat.le_of_ble_eq_true rfl) dX7_size_2 ?_
    refine aw_sipush hK (1000) rfl dX7_size_5 ?_
    refine aw_aload_n hK 0 rfl dX7_size_8 ?_
    refine gf_7_2 hK rfl (2) rfl (List.mem_of_getElem? (i := 1) rfl) dX7_size_9 ?_
    refine aw_iload_n hK 1 rfl dX7_size_12 ?_
    obtain ⟨g5, hF⟩ := gd_some hF
    refine aw_aald hK rfl g5 dX7_size_13 ?_
    refine gf_3_1 hK (kMi g5) (List.mem_of_getElem? (i := 2) rfl) dX7_size_14 ?_
    refine aw_imul hK dX7_size_17 ?_
    refine aw_aload_n hK 0 rfl dX7_size_18 ?_
    refine gf_7_2 hK rfl (2) rfl (List.mem_of_getElem? (i := 1) rfl) dX7_size_19 ?_
    refine aw_iload_n hK 1 rfl dX7_size_22 ?_
    obtain ⟨g6, hF⟩ := gd_some hF
    refine aw_aald hK rfl g6 dX7_size_23 ?_
    refine gf_3_0 hK (kMi g6) ((200 + 4 * ix x1) + 1) rfl (List.mem_of_getElem? (i := 3) rfl) dX7_size_24 ?_
    refine gf_0_2 hK (kM1 (kMi g6)) (List.mem_of_getElem? (i := 4) rfl) dX7_size_27 ?_
    refine aw_iadd hK dX7_size_30 ?_
    obtain ⟨rfl, rfl⟩ := so_inj hF
    exact aw_iretX hK hR rfl (Nat.le_of_ble_eq_true rfl) dX7_size_31
  · obtain ⟨rfl, rfl⟩ := Prod.mk.inj hF
    exact aw_cvXx hK hR 7 (as := [q_i x1]) (trX_X7_needMachine h1) gX7_size_X7_needMachine rfl rfl rfl (by decide) (na := 1) (by decide +kernel) rfl ⟨by decide, by decide⟩ (Nat.le_of_ble_eq_true rfl) (Nat.le_of_ble_eq_true rfl) dX7_size_2
set_option maxRecDepth 100000 in
set_option maxHeartbeats 4000000 in
theorem trN_X7_size {N : Nat} {m m' : Mem} {r : Int32} {x1 : Int32} (hF : F_X7_size N m x1 = some (.inl r, m')) : Tr yX7_size wsX7_size 7 111 [q_r 0, q_i x1] m (some r) m' := by
  refine tr_of (bytes := cX7_size) (maxL := 2) (ret := (some .int)) (by decide) rfl (Nat.le_of_ble_eq_true rfl) (fun K hK hR => ?_)
  have hK : KOK K cX7_size 2 RX7 wsX7_size 7 0 111 := hK
  show AW K 0 0 [(0, q_r 0), (1, q_i x1)] [] m
  unfold F_X7_size at hF
  refine aw_aload_n hK 0 rfl dX7_size_0 ?_
  refine aw_iload_n hK 1 rfl dX7_size_1 ?_
  rcases calx_some hF with ⟨r3, m2, h1, hF⟩ | ⟨x_4, m2, h1, hF⟩
  · refine aw_cv hK 7 (as := [q_i x1]) (trN_X7_needMachine h1) gX7_size_X7_needMachine rfl rfl rfl (by decide) (na := 1) (by decide +kernel) rfl ⟨by decide, by decide⟩ (Nat.zero_le _) (Nat.le_of_ble_eq_true rfl) dX7_size_2 ?_
    refine aw_sipush hK (1000) rfl dX7_size_5 ?_
    refine aw_aload_n hK 0 rfl dX7_size_8 ?_
    refine gf_7_2 hK rfl (2) rfl (List.mem_of_getElem? (i := 1) rfl) dX7_size_9 ?_
    refine aw_iload_n hK 1 rfl dX7_size_12 ?_
    obtain ⟨g5, hF⟩ := gd_some hF
    refine aw_aald hK rfl g5 dX7_size_13 ?_
    refine gf_3_1 hK (kMi g5) (List.mem_of_getElem? (i := 2) rfl) dX7_size_14 ?_
    refine aw_imul hK dX7_size_17 ?_
    refine aw_aload_n hK 0 rfl dX7_size_18 ?_
    refine gf_7_2 hK rfl (2) rfl (List.mem_of_getElem? (i := 1) rfl) dX7_size_19 ?_
    refine aw_iload_n hK 1 rfl dX7_size_22 ?_
    obtain ⟨g6, hF⟩ := gd_some hF
    refine aw_aald hK rfl g6 dX7_size_23 ?_
    refine gf_3_0 hK (kMi g6) ((200 + 4 * ix x1) + 1) rfl (List.mem_of_getElem? (i := 3) rfl) dX7_size_24 ?_
    refine gf_0_2 hK (kM1 (kMi g6)) (List.mem_of_getElem? (i := 4) rfl) dX7_size_27 ?_
    refine aw_iadd hK dX7_size_30 ?_
    obtain ⟨e1, rfl⟩ := so_inj hF
    cases e1
    exact aw_iret hK hR rfl dX7_size_31
  · cases hF
def B_X7_isEnd_22 (N : Nat) (m : Mem) : Option ((Int32 ⊕ Nat) × Mem) :=
  some (.inr 2, m)
set_option maxRecDepth 100000 in
set_option maxHeartbeats 4000000 in
theorem bk_X7_isEnd_22 {N : Nat} {K : KT} {m' : Mem} {res : Int32 ⊕ Nat} (hK : KOK K cX7_isEnd 3 RX7 wsX7_isEnd 7 2 111) (hR : KX K (some .boolean) (xo true res) m' 2) {m : Mem} (hF : B_X7_isEnd_22 N m = some (res, m')) : AW K 1 22 [] [] m := by
  unfold B_X7_isEnd_22 at hF
  obtain ⟨rfl, rfl⟩ := so_inj hF
  exact aw_throw (ik := 201) (ic := 205) (x := 2) hK hR (by decide) (List.mem_of_getElem? (i := 1) rfl) (List.mem_of_getElem? (i := 2) rfl) (List.mem_of_getElem? (i := 6) rfl) (by decide +kernel) (by decide +kernel) (by decide +kernel) (by decide +kernel) ⟨by decide, by decide⟩ (Nat.le_of_ble_eq_true rfl) (Nat.le_of_ble_eq_true rfl) dX7_isEnd_22 dX7_isEnd_25 dX7_isEnd_26 dX7_isEnd_28 dX7_isEnd_31
def F_X7_isEnd (N : Nat) (m : Mem) (x1 : Int32) (x2 : Int32) : Option ((Int32 ⊕ Nat) × Mem) :=
  calx (F_X7_needMachine N m x1) fun r3 m2 =>
  if x2 < (0 : Int32) then (
    B_X7_isEnd_22 N m2
  ) else (
    gd (inb x1 (alen 2)) <|
    if x2 < (m2 (200 + 4 * ix x1) 1) then (
      gd (inb x1 (alen 2)) <|
      gd (isb (P_X7_holds (m2 (200 + 4 * ix x1) 2) x2)) <|
      some (.inl (P_X7_holds (m2 (200 + 4 * ix x1) 2) x2), m2)
    ) else (
      B_X7_isEnd_22 N m2
    )
  )
set_option maxRecDepth 100000 in
set_option maxHeartbeats 4000000 in
theorem trX_X7_isEnd {N : Nat} {m m' : Mem} {res : Int32 ⊕ Nat} {x1 : Int32} {x2 : Int32} (hF : F_X7_isEnd N m x1 x2 = some (res, m')) : TrX yX7_isEnd wsX7_isEnd 7 111 2 [q_r 0, q_i x1, q_i x2] m (xo true res) m' := by
  refine trX_of (bytes := cX7_isEnd) (maxL := 3) (ret := (some .boolean)) (by decide) rfl (Nat.le_of_ble_eq_true rfl) (fun K hK hR => ?_)
  have hK : KOK K cX7_isEnd 3 RX7 wsX7_isEnd 7 2 111 := hK
  show AW K 0 0 [(0, q_r 0), (1, q_i x1), (2, q_i x2)] [] m
  unfold F_X7_isEnd at hF
  refine aw_aload_n hK 0 rfl dX7_isEnd_0 ?_
  refine aw_iload_n hK 1 rfl dX7_isEnd_1 ?_
  rcases calx_some hF with ⟨r3, m2, h1, hF⟩ | ⟨x_4, m2, h1, hF⟩
  · refine aw_cvXr hK (kxb hR) 7 (as := [q_i x1]) (trX_X7_needMachine h1) gX7_isEnd_X7_needMachine rfl rfl rfl (by decide) (na := 1) (by decide +kernel) rfl ⟨by decide, by decide⟩ (Nat.le_of_ble_eq_true rfl) (Nat.le_of_ble_eq_true rfl) dX7_isEnd_2 ?_
    refine aw_iload_n hK 2 rfl dX7_isEnd_5 ?_
    refine aw_if_lt hK 22 rfl dX7_isEnd_6 (fun hc => ?_) (fun hc => ?_)
    · have hF := if_t hF hc
      refine aw_sub [] (lv' := []) rfl ?_
      exact bk_X7_isEnd_22 hK hR hF
    · have hF := if_f hF hc
      refine aw_iload_n hK 2 rfl dX7_isEnd_9 ?_
      refine aw_aload_n hK 0 rfl dX7_isEnd_10 ?_
      refine gf_7_2 hK rfl (2) rfl (List.mem_of_getElem? (i := 3) rfl) dX7_isEnd_11 ?_
      refine aw_iload_n hK 1 rfl dX7_isEnd_14 ?_
      obtain ⟨g5, hF⟩ := gd_some hF
      refine aw_aald hK rfl g5 dX7_isEnd_15 ?_
      refine gf_3_1 hK (kMi g5) (List.mem_of_getElem? (i := 4) rfl) dX7_isEnd_16 ?_
      refine aw_icmp_lt hK 32 rfl dX7_isEnd_19 (fun hc => ?_) (fun hc => ?_)
      · have hF := if_t hF hc
        refine aw_aload_n hK 0 rfl dX7_isEnd_32 ?_
        refine gf_7_2 hK rfl (2) rfl (List.mem_of_getElem? (i := 3) rfl) dX7_isEnd_33 ?_
        refine aw_iload_n hK 1 rfl dX7_isEnd_36 ?_
        obtain ⟨g6, hF⟩ := gd_some hF
        refine aw_aald hK rfl g6 dX7_isEnd_37 ?_
        refine gf_3_2 hK (kMi g6) (List.mem_of_getElem? (i := 5) rfl) dX7_isEnd_38 ?_
        refine aw_iload_n hK 2 rfl dX7_isEnd_41 ?_
        refine aw_cs hK (as := [q_i (m2 (200 + 4 * ix x1) 2), q_i x2]) (trp_X7_holds (m2 (200 + 4 * ix x1) 2) x2 _) gX7_isEnd_X7_holds rfl (na := 2) (by decide +kernel) rfl ⟨by decide, by decide⟩ (Nat.le_of_ble_eq_true rfl) (Nat.le_of_ble_eq_true rfl) dX7_isEnd_42 ?_
        obtain ⟨g7, hF⟩ := gd_some hF
        obtain ⟨rfl, rfl⟩ := so_inj hF
        exact aw_iretX hK hR (isb_narrow g7) (Nat.le_of_ble_eq_true rfl) dX7_isEnd_45
      · have hF := if_f hF hc
        refine aw_sub [] (lv' := []) rfl ?_
        exact bk_X7_isEnd_22 hK hR hF
  · obtain ⟨rfl, rfl⟩ := Prod.mk.inj hF
    exact aw_cvXx hK hR 7 (as := [q_i x1]) (trX_X7_needMachine h1) gX7_isEnd_X7_needMachine rfl rfl rfl (by decide) (na := 1) (by decide +kernel) rfl ⟨by decide, by decide⟩ (Nat.le_of_ble_eq_true rfl) (Nat.le_of_ble_eq_true rfl) dX7_isEnd_2
set_option maxRecDepth 100000 in
set_option maxHeartbeats 4000000 in
theorem bkN_X7_isEnd_22 {N : Nat} {K : KT} {m' : Mem} {r : Int32} (hK : KOK K cX7_isEnd 3 RX7 wsX7_isEnd 7 0 111) (hR : KRet K (some .boolean) (some r) m') {m : Mem} (hF : B_X7_isEnd_22 N m = some (.inl r, m')) : AW K 0 22 [] [] m := by
  unfold B_X7_isEnd_22 at hF
  cases hF
set_option maxRecDepth 100000 in
set_option maxHeartbeats 4000000 in
theorem trN_X7_isEnd {N : Nat} {m m' : Mem} {r : Int32} {x1 : Int32} {x2 : Int32} (hF : F_X7_isEnd N m x1 x2 = some (.inl r, m')) : Tr yX7_isEnd wsX7_isEnd 7 111 [q_r 0, q_i x1, q_i x2] m (some r) m' := by
  refine tr_of (bytes := cX7_isEnd) (maxL := 3) (ret := (some .boolean)) (by decide) rfl (Nat.le_of_ble_eq_true rfl) (fun K hK hR => ?_)
  have hK : KOK K cX7_isEnd 3 RX7 wsX7_isEnd 7 0 111 := hK
  show AW K 0 0 [(0, q_r 0), (1, q_i x1), (2, q_i x2)] [] m
  unfold F_X7_isEnd at hF
  refine aw_aload_n hK 0 rfl dX7_isEnd_0 ?_
  refine aw_iload_n hK 1 rfl dX7_isEnd_1 ?_
  rcases calx_some hF with ⟨r3, m2, h1, hF⟩ | ⟨x_4, m2, h1, hF⟩
  · refine aw_cv hK 7 (as := [q_i x1]) (trN_X7_needMachine h1) gX7_isEnd_X7_needMachine rfl rfl rfl (by decide) (na := 1) (by decide +kernel) rfl ⟨by decide, by decide⟩ (Nat.zero_le _) (Nat.le_of_ble_eq_true rfl) dX7_isEnd_2 ?_
    refine aw_iload_n hK 2 rfl dX7_isEnd_5 ?_
    refine aw_if_lt hK 22 rfl dX7_isEnd_6 (fun hc => ?_) (fun hc => ?_)
    · have hF := if_t hF hc
      refine aw_sub [] (lv' := []) rfl ?_
      exact bkN_X7_isEnd_22 hK hR hF
    · have hF := if_f hF hc
      refine aw_iload_n hK 2 rfl dX7_isEnd_9 ?_
      refine aw_aload_n hK 0 rfl dX7_isEnd_10 ?_
      refine gf_7_2 hK rfl (2) rfl (List.mem_of_getElem? (i := 3) rfl) dX7_isEnd_11 ?_
      refine aw_iload_n hK 1 rfl dX7_isEnd_14 ?_
      obtain ⟨g5, hF⟩ := gd_some hF
      refine aw_aald hK rfl g5 dX7_isEnd_15 ?_
      refine gf_3_1 hK (kMi g5) (List.mem_of_getElem? (i := 4) rfl) dX7_isEnd_16 ?_
      refine aw_icmp_lt hK 32 rfl dX7_isEnd_19 (fun hc => ?_) (fun hc => ?_)
      · have hF := if_t hF hc
        refine aw_aload_n hK 0 rfl dX7_isEnd_32 ?_
        refine gf_7_2 hK rfl (2) rfl (List.mem_of_getElem? (i := 3) rfl) dX7_isEnd_33 ?_
        refine aw_iload_n hK 1 rfl dX7_isEnd_36 ?_
        obtain ⟨g6, hF⟩ := gd_some hF
        refine aw_aald hK rfl g6 dX7_isEnd_37 ?_
        refine gf_3_2 hK (kMi g6) (List.mem_of_getElem? (i := 5) rfl) dX7_isEnd_38 ?_
        refine aw_iload_n hK 2 rfl dX7_isEnd_41 ?_
        refine aw_cs hK (as := [q_i (m2 (200 + 4 * ix x1) 2), q_i x2]) (trp_X7_holds (m2 (200 + 4 * ix x1) 2) x2 _) gX7_isEnd_X7_holds rfl (na := 2) (by decide +kernel) rfl ⟨by decide, by decide⟩ (Nat.zero_le _) (Nat.le_of_ble_eq_true rfl) dX7_isEnd_42 ?_
        obtain ⟨g7, hF⟩ := gd_some hF
        obtain ⟨e1, rfl⟩ := so_inj hF
        cases e1
        exact aw_iret hK hR (isb_narrow g7) dX7_isEnd_45
      · have hF := if_f hF hc
        refine aw_sub [] (lv' := []) rfl ?_
        exact bkN_X7_isEnd_22 hK hR hF
  · cases hF
def B_X7_arc_29 (N : Nat) (m : Mem) : Option ((Int32 ⊕ Nat) × Mem) :=
  some (.inr 2, m)
set_option maxRecDepth 100000 in
set_option maxHeartbeats 4000000 in
theorem bk_X7_arc_29 {N : Nat} {K : KT} {m' : Mem} {res : Int32 ⊕ Nat} (hK : KOK K cX7_arc 5 RX7 wsX7_arc 7 2 111) (hR : KX K (some .int) (xo true res) m' 2) {m : Mem} (hF : B_X7_arc_29 N m = some (res, m')) : AW K 1 29 [] [] m := by
  unfold B_X7_arc_29 at hF
  obtain ⟨rfl, rfl⟩ := so_inj hF
  exact aw_throw (ik := 201) (ic := 205) (x := 2) hK hR (by decide) (List.mem_of_getElem? (i := 1) rfl) (List.mem_of_getElem? (i := 2) rfl) (List.mem_of_getElem? (i := 7) rfl) (by decide +kernel) (by decide +kernel) (by decide +kernel) (by decide +kernel) ⟨by decide, by decide⟩ (Nat.le_of_ble_eq_true rfl) (Nat.le_of_ble_eq_true rfl) dX7_arc_29 dX7_arc_32 dX7_arc_33 dX7_arc_35 dX7_arc_38
def F_X7_arc (N : Nat) (m : Mem) (x1 : Int32) (x2 : Int32) (x3 : Int32) : Option ((Int32 ⊕ Nat) × Mem) :=
  calx (F_X7_needMachine N m x1) fun r3 m2 =>
  gd (inb x1 (alen 2)) <|
  bnd ((200 + 4 * ix x1) + 1) fun q6 =>
  if x2 < (0 : Int32) then (
    B_X7_arc_29 N m2
  ) else (
    if x2 < (m2 q6 2) then (
      if x3 = (0 : Int32) then (
        gd (inb x2 (alen (q6 + 1))) <|
        some (.inl (P_X7_fromOf (m2 (q6 + 1) (ix x2))), m2)
      ) else (
      if x3 = (1 : Int32) then (
        gd (inb x2 (alen (q6 + 1))) <|
        some (.inl (P_X7_upperOf (m2 (q6 + 1) (ix x2))), m2)
      ) else (
      if x3 = (2 : Int32) then (
        gd (inb x2 (alen (q6 + 1))) <|
        some (.inl (P_X7_lowerOf (m2 (q6 + 1) (ix x2))), m2)
      ) else (
      if x3 = (3 : Int32) then (
        gd (inb x2 (alen (q6 + 2))) <|
        some (.inl (m2 (q6 + 2) (ix x2)), m2)
      ) else (
      if x3 = (4 : Int32) then (
        gd (inb x2 (alen (q6 + 1))) <|
        some (.inl (P_X7_toOf (m2 (q6 + 1) (ix x2))), m2)
      ) else (
        some (.inr 0, m2)
      )))))
    ) else (
      B_X7_arc_29 N m2
    )
  )
set_option maxRecDepth 100000 in
set_option maxHeartbeats 4000000 in
theorem trX_X7_arc {N : Nat} {m m' : Mem} {res : Int32 ⊕ Nat} {x1 : Int32} {x2 : Int32} {x3 : Int32} (hF : F_X7_arc N m x1 x2 x3 = some (res, m')) : TrX yX7_arc wsX7_arc 7 111 2 [q_r 0, q_i x1, q_i x2, q_i x3] m (xo true res) m' := by
  refine trX_of (bytes := cX7_arc) (maxL := 5) (ret := (some .int)) (by decide) rfl (Nat.le_of_ble_eq_true rfl) (fun K hK hR => ?_)
  have hK : KOK K cX7_arc 5 RX7 wsX7_arc 7 2 111 := hK
  show AW K 0 0 [(0, q_r 0), (1, q_i x1), (2, q_i x2), (3, q_i x3)] [] m
  unfold F_X7_arc at hF
  refine aw_aload_n hK 0 rfl dX7_arc_0 ?_
  refine aw_iload_n hK 1 rfl dX7_arc_1 ?_
  rcases calx_some hF with ⟨r3, m2, h1, hF⟩ | ⟨x_4, m2, h1, hF⟩
  · refine aw_cvXr hK (kxb hR) 7 (as := [q_i x1]) (trX_X7_needMachine h1) gX7_arc_X7_needMachine rfl rfl rfl (by decide) (na := 1) (by decide +kernel) rfl ⟨by decide, by decide⟩ (Nat.le_of_ble_eq_true rfl) (Nat.le_of_ble_eq_true rfl) dX7_arc_2 ?_
    refine aw_aload_n hK 0 rfl dX7_arc_5 ?_
    refine gf_7_2 hK rfl (2) rfl (List.mem_of_getElem? (i := 5) rfl) dX7_arc_6 ?_
    refine aw_iload_n hK 1 rfl dX7_arc_9 ?_
    obtain ⟨g5, hF⟩ := gd_some hF
    refine aw_aald hK rfl g5 dX7_arc_10 ?_
    refine gf_3_0 hK (kMi g5) ((200 + 4 * ix x1) + 1) rfl (List.mem_of_getElem? (i := 6) rfl) dX7_arc_11 ?_
    obtain ⟨q6, hq6, hF⟩ := bnd_some hF
    refine aw_nr hq6 ?_
    refine aw_astore hK [(4, q_r q6), (0, q_r 0), (1, q_i x1), (2, q_i x2), (3, q_i x3)] (by decide) rfl dX7_arc_14 ?_
    refine aw_iload_n hK 3 rfl dX7_arc_16 ?_
    refine aw_if_lt hK 29 rfl dX7_arc_17 (fun hc => ?_) (fun hc => ?_)
    · have hF := if_t hF hc
      refine aw_sub [] (lv' := []) rfl ?_
      exact bk_X7_arc_29 hK hR hF
    · have hF := if_f hF hc
      refine aw_iload_n hK 3 rfl dX7_arc_20 ?_
      refine aw_aload hK 0 rfl dX7_arc_21 ?_
      refine gf_0_2 hK (hq6 ▸ (kM1 (kMi g5))) (List.mem_of_getElem? (i := 7) rfl) dX7_arc_23 ?_
      refine aw_icmp_lt hK 39 rfl dX7_arc_26 (fun hc => ?_) (fun hc => ?_)
      · have hF := if_t hF hc
        refine aw_iload_n hK 4 rfl dX7_arc_39 ?_
        by_cases hc0 : x3 = (0 : Int32)
        · have hF := if_t hF hc0
          refine aw_tin hK (0) _ 76 hc0 (by decide) (by decide) rfl rfl dX7_arc_40 ?_
          refine aw_aload hK 0 rfl dX7_arc_76 ?_
          refine gf_0_0 hK (hq6 ▸ (kM1 (kMi g5))) (q6 + 1) rfl (List.mem_of_getElem? (i := 8) rfl) dX7_arc_78 ?_
          refine aw_iload_n hK 3 rfl dX7_arc_81 ?_
          obtain ⟨g7, hF⟩ := gd_some hF
          refine aw_iald hK (kA1 (hq6 ▸ (kM1 (kMi g5)))) g7 dX7_arc_82 ?_
          refine aw_cs hK (as := [q_i (m2 (q6 + 1) (ix x2))]) (trp_X7_fromOf (m2 (q6 + 1) (ix x2)) _) gX7_arc_X7_fromOf rfl (na := 1) (by decide +kernel) rfl ⟨by decide, by decide⟩ (Nat.le_of_ble_eq_true rfl) (Nat.le_of_ble_eq_true rfl) dX7_arc_83 ?_
          obtain ⟨rfl, rfl⟩ := so_inj hF
          exact aw_iretX hK hR rfl (Nat.le_of_ble_eq_true rfl) dX7_arc_86
        have hF := if_f hF hc0
        by_cases hc1 : x3 = (1 : Int32)
        · have hF := if_t hF hc1
          refine aw_tin hK (1) _ 87 hc1 (by decide) (by decide) rfl rfl dX7_arc_40 ?_
          refine aw_aload hK 0 rfl dX7_arc_87 ?_
          refine gf_0_0 hK (hq6 ▸ (kM1 (kMi g5))) (q6 + 1) rfl (List.mem_of_getElem? (i := 8) rfl) dX7_arc_89 ?_
          refine aw_iload_n hK 3 rfl dX7_arc_92 ?_
          obtain ⟨g8, hF⟩ := gd_some hF
          refine aw_iald hK (kA1 (hq6 ▸ (kM1 (kMi g5)))) g8 dX7_arc_93 ?_
          refine aw_cs hK (as := [q_i (m2 (q6 + 1) (ix x2))]) (trp_X7_upperOf (m2 (q6 + 1) (ix x2)) _) gX7_arc_X7_upperOf rfl (na := 1) (by decide +kernel) rfl ⟨by decide, by decide⟩ (Nat.le_of_ble_eq_true rfl) (Nat.le_of_ble_eq_true rfl) dX7_arc_94 ?_
          obtain ⟨rfl, rfl⟩ := so_inj hF
          exact aw_iretX hK hR rfl (Nat.le_of_ble_eq_true rfl) dX7_arc_97
        have hF := if_f hF hc1
        by_cases hc2 : x3 = (2 : Int32)
        · have hF := if_t hF hc2
          refine aw_tin hK (2) _ 98 hc2 (by decide) (by decide) rfl rfl dX7_arc_40 ?_
          refine aw_aload hK 0 rfl dX7_arc_98 ?_
          refine gf_0_0 hK (hq6 ▸ (kM1 (kMi g5))) (q6 + 1) rfl (List.mem_of_getElem? (i := 8) rfl) dX7_arc_100 ?_
          refine aw_iload_n hK 3 rfl dX7_arc_103 ?_
          obtain ⟨g9, hF⟩ := gd_some hF
          refine aw_iald hK (kA1 (hq6 ▸ (kM1 (kMi g5)))) g9 dX7_arc_104 ?_
          refine aw_cs hK (as := [q_i (m2 (q6 + 1) (ix x2))]) (trp_X7_lowerOf (m2 (q6 + 1) (ix x2)) _) gX7_arc_X7_lowerOf rfl (na := 1) (by decide +kernel) rfl ⟨by decide, by decide⟩ (Nat.le_of_ble_eq_true rfl) (Nat.le_of_ble_eq_true rfl) dX7_arc_105 ?_
          obtain ⟨rfl, rfl⟩ := so_inj hF
          exact aw_iretX hK hR rfl (Nat.le_of_ble_eq_true rfl) dX7_arc_108
        have hF := if_f hF hc2
        by_cases hc3 : x3 = (3 : Int32)
        · have hF := if_t hF hc3
          refine aw_tin hK (3) _ 109 hc3 (by decide) (by decide) rfl rfl dX7_arc_40 ?_
          refine aw_aload hK 0 rfl dX7_arc_109 ?_
          refine gf_0_1 hK (hq6 ▸ (kM1 (kMi g5))) (q6 + 2) rfl (List.mem_of_getElem? (i := 9) rfl) dX7_arc_111 ?_
          refine aw_iload_n hK 3 rfl dX7_arc_114 ?_
          obtain ⟨g10, hF⟩ := gd_some hF
          refine aw_iald hK (kA2 (hq6 ▸ (kM1 (kMi g5)))) g10 dX7_arc_115 ?_
          obtain ⟨rfl, rfl⟩ := so_inj hF
          exact aw_iretX hK hR rfl (Nat.le_of_ble_eq_true rfl) dX7_arc_116
        have hF := if_f hF hc3
        by_cases hc4 : x3 = (4 : Int32)
        · have hF := if_t hF hc4
          refine aw_tin hK (4) _ 117 hc4 (by decide) (by decide) rfl rfl dX7_arc_40 ?_
          refine aw_aload hK 0 rfl dX7_arc_117 ?_
          refine gf_0_0 hK (hq6 ▸ (kM1 (kMi g5))) (q6 + 1) rfl (List.mem_of_getElem? (i := 8) rfl) dX7_arc_119 ?_
          refine aw_iload_n hK 3 rfl dX7_arc_122 ?_
          obtain ⟨g11, hF⟩ := gd_some hF
          refine aw_iald hK (kA1 (hq6 ▸ (kM1 (kMi g5)))) g11 dX7_arc_123 ?_
          refine aw_cs hK (as := [q_i (m2 (q6 + 1) (ix x2))]) (trp_X7_toOf (m2 (q6 + 1) (ix x2)) _) gX7_arc_X7_toOf rfl (na := 1) (by decide +kernel) rfl ⟨by decide, by decide⟩ (Nat.le_of_ble_eq_true rfl) (Nat.le_of_ble_eq_true rfl) dX7_arc_124 ?_
          obtain ⟨rfl, rfl⟩ := so_inj hF
          exact aw_iretX hK hR rfl (Nat.le_of_ble_eq_true rfl) dX7_arc_127
        have hF := if_f hF hc4
        refine aw_tout hK 128 (tsw_out (z := 4) (by decide) (fun k hk => match k, hk with | 0, _ => hc0 | 1, _ => hc1 | 2, _ => hc2 | 3, _ => hc3 | 4, _ => hc4 | k + 5, hk => absurd hk (by omega))) rfl dX7_arc_40 ?_
        obtain ⟨rfl, rfl⟩ := so_inj hF
        exact aw_throw (ik := 59) (ic := 63) (x := 0) hK hR (by decide) (List.mem_of_getElem? (i := 3) rfl) (List.mem_of_getElem? (i := 4) rfl) (List.mem_of_getElem? (i := 8) rfl) (by decide +kernel) (by decide +kernel) (by decide +kernel) (by decide +kernel) ⟨by decide, by decide⟩ (Nat.le_of_ble_eq_true rfl) (Nat.le_of_ble_eq_true rfl) dX7_arc_128 dX7_arc_131 dX7_arc_132 dX7_arc_134 dX7_arc_137
      · have hF := if_f hF hc
        refine aw_sub [] (lv' := []) rfl ?_
        exact bk_X7_arc_29 hK hR hF
  · obtain ⟨rfl, rfl⟩ := Prod.mk.inj hF
    exact aw_cvXx hK hR 7 (as := [q_i x1]) (trX_X7_needMachine h1) gX7_arc_X7_needMachine rfl rfl rfl (by decide) (na := 1) (by decide +kernel) rfl ⟨by decide, by decide⟩ (Nat.le_of_ble_eq_true rfl) (Nat.le_of_ble_eq_true rfl) dX7_arc_2
set_option maxRecDepth 100000 in
set_option maxHeartbeats 4000000 in
theorem bkN_X7_arc_29 {N : Nat} {K : KT} {m' : Mem} {r : Int32} (hK : KOK K cX7_arc 5 RX7 wsX7_arc 7 0 111) (hR : KRet K (some .int) (some r) m') {m : Mem} (hF : B_X7_arc_29 N m = some (.inl r, m')) : AW K 0 29 [] [] m := by
  unfold B_X7_arc_29 at hF
  cases hF
set_option maxRecDepth 100000 in
set_option maxHeartbeats 4000000 in
theorem trN_X7_arc {N : Nat} {m m' : Mem} {r : Int32} {x1 : Int32} {x2 : Int32} {x3 : Int32} (hF : F_X7_arc N m x1 x2 x3 = some (.inl r, m')) : Tr yX7_arc wsX7_arc 7 111 [q_r 0, q_i x1, q_i x2, q_i x3] m (some r) m' := by
  refine tr_of (bytes := cX7_arc) (maxL := 5) (ret := (some .int)) (by decide) rfl (Nat.le_of_ble_eq_true rfl) (fun K hK hR => ?_)
  have hK : KOK K cX7_arc 5 RX7 wsX7_arc 7 0 111 := hK
  show AW K 0 0 [(0, q_r 0), (1, q_i x1), (2, q_i x2), (3, q_i x3)] [] m
  unfold F_X7_arc at hF
  refine aw_aload_n hK 0 rfl dX7_arc_0 ?_
  refine aw_iload_n hK 1 rfl dX7_arc_1 ?_
  rcases calx_some hF with ⟨r3, m2, h1, hF⟩ | ⟨x_4, m2, h1, hF⟩
  · refine aw_cv hK 7 (as := [q_i x1]) (trN_X7_needMachine h1) gX7_arc_X7_needMachine rfl rfl rfl (by decide) (na := 1) (by decide +kernel) rfl ⟨by decide, by decide⟩ (Nat.zero_le _) (Nat.le_of_ble_eq_true rfl) dX7_arc_2 ?_
    refine aw_aload_n hK 0 rfl dX7_arc_5 ?_
    refine gf_7_2 hK rfl (2) rfl (List.mem_of_getElem? (i := 5) rfl) dX7_arc_6 ?_
    refine aw_iload_n hK 1 rfl dX7_arc_9 ?_
    obtain ⟨g5, hF⟩ := gd_some hF
    refine aw_aald hK rfl g5 dX7_arc_10 ?_
    refine gf_3_0 hK (kMi g5) ((200 + 4 * ix x1) + 1) rfl (List.mem_of_getElem? (i := 6) rfl) dX7_arc_11 ?_
    obtain ⟨q6, hq6, hF⟩ := bnd_some hF
    refine aw_nr hq6 ?_
    refine aw_astore hK [(4, q_r q6), (0, q_r 0), (1, q_i x1), (2, q_i x2), (3, q_i x3)] (by decide) rfl dX7_arc_14 ?_
    refine aw_iload_n hK 3 rfl dX7_arc_16 ?_
    refine aw_if_lt hK 29 rfl dX7_arc_17 (fun hc => ?_) (fun hc => ?_)
    · have hF := if_t hF hc
      refine aw_sub [] (lv' := []) rfl ?_
      exact bkN_X7_arc_29 hK hR hF
    · have hF := if_f hF hc
      refine aw_iload_n hK 3 rfl dX7_arc_20 ?_
      refine aw_aload hK 0 rfl dX7_arc_21 ?_
      refine gf_0_2 hK (hq6 ▸ (kM1 (kMi g5))) (List.mem_of_getElem? (i := 7) rfl) dX7_arc_23 ?_
      refine aw_icmp_lt hK 39 rfl dX7_arc_26 (fun hc => ?_) (fun hc => ?_)
      · have hF := if_t hF hc
        refine aw_iload_n hK 4 rfl dX7_arc_39 ?_
        by_cases hc0 : x3 = (0 : Int32)
        · have hF := if_t hF hc0
          refine aw_tin hK (0) _ 76 hc0 (by decide) (by decide) rfl rfl dX7_arc_40 ?_
          refine aw_aload hK 0 rfl dX7_arc_76 ?_
          refine gf_0_0 hK (hq6 ▸ (kM1 (kMi g5))) (q6 + 1) rfl (List.mem_of_getElem? (i := 8) rfl) dX7_arc_78 ?_
          refine aw_iload_n hK 3 rfl dX7_arc_81 ?_
          obtain ⟨g7, hF⟩ := gd_some hF
          refine aw_iald hK (kA1 (hq6 ▸ (kM1 (kMi g5)))) g7 dX7_arc_82 ?_
          refine aw_cs hK (as := [q_i (m2 (q6 + 1) (ix x2))]) (trp_X7_fromOf (m2 (q6 + 1) (ix x2)) _) gX7_arc_X7_fromOf rfl (na := 1) (by decide +kernel) rfl ⟨by decide, by decide⟩ (Nat.zero_le _) (Nat.le_of_ble_eq_true rfl) dX7_arc_83 ?_
          obtain ⟨e1, rfl⟩ := so_inj hF
          cases e1
          exact aw_iret hK hR rfl dX7_arc_86
        have hF := if_f hF hc0
        by_cases hc1 : x3 = (1 : Int32)
        · have hF := if_t hF hc1
          refine aw_tin hK (1) _ 87 hc1 (by decide) (by decide) rfl rfl dX7_arc_40 ?_
          refine aw_aload hK 0 rfl dX7_arc_87 ?_
          refine gf_0_0 hK (hq6 ▸ (kM1 (kMi g5))) (q6 + 1) rfl (List.mem_of_getElem? (i := 8) rfl) dX7_arc_89 ?_
          refine aw_iload_n hK 3 rfl dX7_arc_92 ?_
          obtain ⟨g8, hF⟩ := gd_some hF
          refine aw_iald hK (kA1 (hq6 ▸ (kM1 (kMi g5)))) g8 dX7_arc_93 ?_
          refine aw_cs hK (as := [q_i (m2 (q6 + 1) (ix x2))]) (trp_X7_upperOf (m2 (q6 + 1) (ix x2)) _) gX7_arc_X7_upperOf rfl (na := 1) (by decide +kernel) rfl ⟨by decide, by decide⟩ (Nat.zero_le _) (Nat.le_of_ble_eq_true rfl) dX7_arc_94 ?_
          obtain ⟨e1, rfl⟩ := so_inj hF
          cases e1
          exact aw_iret hK hR rfl dX7_arc_97
        have hF := if_f hF hc1
        by_cases hc2 : x3 = (2 : Int32)
        · have hF := if_t hF hc2
          refine aw_tin hK (2) _ 98 hc2 (by decide) (by decide) rfl rfl dX7_arc_40 ?_
          refine aw_aload hK 0 rfl dX7_arc_98 ?_
          refine gf_0_0 hK (hq6 ▸ (kM1 (kMi g5))) (q6 + 1) rfl (List.mem_of_getElem? (i := 8) rfl) dX7_arc_100 ?_
          refine aw_iload_n hK 3 rfl dX7_arc_103 ?_
          obtain ⟨g9, hF⟩ := gd_some hF
          refine aw_iald hK (kA1 (hq6 ▸ (kM1 (kMi g5)))) g9 dX7_arc_104 ?_
          refine aw_cs hK (as := [q_i (m2 (q6 + 1) (ix x2))]) (trp_X7_lowerOf (m2 (q6 + 1) (ix x2)) _) gX7_arc_X7_lowerOf rfl (na := 1) (by decide +kernel) rfl ⟨by decide, by decide⟩ (Nat.zero_le _) (Nat.le_of_ble_eq_true rfl) dX7_arc_105 ?_
          obtain ⟨e1, rfl⟩ := so_inj hF
          cases e1
          exact aw_iret hK hR rfl dX7_arc_108
        have hF := if_f hF hc2
        by_cases hc3 : x3 = (3 : Int32)
        · have hF := if_t hF hc3
          refine aw_tin hK (3) _ 109 hc3 (by decide) (by decide) rfl rfl dX7_arc_40 ?_
          refine aw_aload hK 0 rfl dX7_arc_109 ?_
          refine gf_0_1 hK (hq6 ▸ (kM1 (kMi g5))) (q6 + 2) rfl (List.mem_of_getElem? (i := 9) rfl) dX7_arc_111 ?_
          refine aw_iload_n hK 3 rfl dX7_arc_114 ?_
          obtain ⟨g10, hF⟩ := gd_some hF
          refine aw_iald hK (kA2 (hq6 ▸ (kM1 (kMi g5)))) g10 dX7_arc_115 ?_
          obtain ⟨e1, rfl⟩ := so_inj hF
          cases e1
          exact aw_iret hK hR rfl dX7_arc_116
        have hF := if_f hF hc3
        by_cases hc4 : x3 = (4 : Int32)
        · have hF := if_t hF hc4
          refine aw_tin hK (4) _ 117 hc4 (by decide) (by decide) rfl rfl dX7_arc_40 ?_
          refine aw_aload hK 0 rfl dX7_arc_117 ?_
          refine gf_0_0 hK (hq6 ▸ (kM1 (kMi g5))) (q6 + 1) rfl (List.mem_of_getElem? (i := 8) rfl) dX7_arc_119 ?_
          refine aw_iload_n hK 3 rfl dX7_arc_122 ?_
          obtain ⟨g11, hF⟩ := gd_some hF
          refine aw_iald hK (kA1 (hq6 ▸ (kM1 (kMi g5)))) g11 dX7_arc_123 ?_
          refine aw_cs hK (as := [q_i (m2 (q6 + 1) (ix x2))]) (trp_X7_toOf (m2 (q6 + 1) (ix x2)) _) gX7_arc_X7_toOf rfl (na := 1) (by decide +kernel) rfl ⟨by decide, by decide⟩ (Nat.zero_le _) (Nat.le_of_ble_eq_true rfl) dX7_arc_124 ?_
          obtain ⟨e1, rfl⟩ := so_inj hF
          cases e1
          exact aw_iret hK hR rfl dX7_arc_127
        have hF := if_f hF hc4
        refine aw_tout hK 128 (tsw_out (z := 4) (by decide) (fun k hk => match k, hk with | 0, _ => hc0 | 1, _ => hc1 | 2, _ => hc2 | 3, _ => hc3 | 4, _ => hc4 | k + 5, hk => absurd hk (by omega))) rfl dX7_arc_40 ?_
        cases hF
      · have hF := if_f hF hc
        refine aw_sub [] (lv' := []) rfl ?_
        exact bkN_X7_arc_29 hK hR hF
  · cases hF
def F_X7_needPlace (N : Nat) (m : Mem) (x0 : Int32) : Option ((Int32 ⊕ Nat) × Mem) :=
  if (0 : Int32) ≤ x0 then (
    some (.inl 0, m)
  ) else (
    some (.inr 2, m)
  )
set_option maxRecDepth 100000 in
set_option maxHeartbeats 4000000 in
theorem trX_X7_needPlace {N : Nat} {m m' : Mem} {res : Int32 ⊕ Nat} {x0 : Int32} (hF : F_X7_needPlace N m x0 = some (res, m')) : TrX yX7_needPlace wsX7_needPlace 6 90 1 [q_i x0] m (xo false res) m' := by
  refine trX_of (bytes := cX7_needPlace) (maxL := 1) (ret := none) (by decide) rfl (Nat.le_of_ble_eq_true rfl) (fun K hK hR => ?_)
  have hK : KOK K cX7_needPlace 1 RX7 wsX7_needPlace 6 1 90 := hK
  show AW K 0 0 [(0, q_i x0)] [] m
  unfold F_X7_needPlace at hF
  refine aw_iload_n hK 0 rfl dX7_needPlace_0 ?_
  refine aw_if_ge hK 15 rfl dX7_needPlace_1 (fun hc => ?_) (fun hc => ?_)
  · have hF := if_t hF hc
    obtain ⟨rfl, rfl⟩ := so_inj hF
    exact aw_vretX hK hR (Nat.le_of_ble_eq_true rfl) dX7_needPlace_15
  · have hF := if_f hF hc
    obtain ⟨rfl, rfl⟩ := so_inj hF
    exact aw_throwW (ik := 201) (ic := 205) (x := 2) hK hR (by decide) (List.mem_of_getElem? (i := 1) rfl) (List.mem_of_getElem? (i := 2) rfl) (List.mem_of_getElem? (i := 11) rfl) (by decide +kernel) (by decide +kernel) (by decide +kernel) (by decide +kernel) ⟨by decide, by decide⟩ (Nat.le_of_ble_eq_true rfl) (Nat.le_of_ble_eq_true rfl) dX7_needPlace_4 dX7_needPlace_7 dX7_needPlace_8 dX7_needPlace_11 dX7_needPlace_14
set_option maxRecDepth 100000 in
set_option maxHeartbeats 4000000 in
theorem trN_X7_needPlace {N : Nat} {m m' : Mem} {r : Int32} {x0 : Int32} (hF : F_X7_needPlace N m x0 = some (.inl r, m')) : Tr yX7_needPlace wsX7_needPlace 6 90 [q_i x0] m none m' := by
  refine tr_of (bytes := cX7_needPlace) (maxL := 1) (ret := none) (by decide) rfl (Nat.le_of_ble_eq_true rfl) (fun K hK hR => ?_)
  have hK : KOK K cX7_needPlace 1 RX7 wsX7_needPlace 6 0 90 := hK
  show AW K 0 0 [(0, q_i x0)] [] m
  unfold F_X7_needPlace at hF
  refine aw_iload_n hK 0 rfl dX7_needPlace_0 ?_
  refine aw_if_ge hK 15 rfl dX7_needPlace_1 (fun hc => ?_) (fun hc => ?_)
  · have hF := if_t hF hc
    obtain ⟨e1, rfl⟩ := so_inj hF
    exact aw_vret hK hR dX7_needPlace_15
  · have hF := if_f hF hc
    cases hF
def B_X7_answer_20 (N : Nat) (m : Mem) : Option ((Int32 ⊕ Nat) × Mem) :=
  some (.inr 0, m)
set_option maxRecDepth 100000 in
set_option maxHeartbeats 4000000 in
theorem bk_X7_answer_20 {N : Nat} {K : KT} {m' : Mem} {res : Int32 ⊕ Nat} (hK : KOK K cX7_answer 5 RX7 wsX7_answer 7 3 119) (hR : KX K (some .int) (xo true res) m' 3) {m : Mem} (hF : B_X7_answer_20 N m = some (res, m')) : AW K 2 20 [] [] m := by
  unfold B_X7_answer_20 at hF
  obtain ⟨rfl, rfl⟩ := so_inj hF
  exact aw_throw (ik := 59) (ic := 63) (x := 0) hK hR (by decide) (List.mem_of_getElem? (i := 1) rfl) (List.mem_of_getElem? (i := 2) rfl) (List.mem_of_getElem? (i := 9) rfl) (by decide +kernel) (by decide +kernel) (by decide +kernel) (by decide +kernel) ⟨by decide, by decide⟩ (Nat.le_of_ble_eq_true rfl) (Nat.le_of_ble_eq_true rfl) dX7_answer_20 dX7_answer_23 dX7_answer_24 dX7_answer_26 dX7_answer_29
def F_X7_answer (N : Nat) (m : Mem) (x1 : Int32) (x2 : Int32) (x3 : Int32) (x4 : Int32) : Option ((Int32 ⊕ Nat) × Mem) :=
  calx (F_X7_needMachine N m x1) fun r3 m2 =>
  calx (F_X7_needPlace N m2 x4) fun r7 m6 =>
  if x3 < (0 : Int32) then (
    B_X7_answer_20 N m6
  ) else (
    if x3 < (20 : Int32) then (
      calv (F_X7_lookUp N m6 x1 x2) fun m10 =>
      cal (F_X4_find N m10 (x3 + (1 : Int32)) (0 : Int32)) fun r13 m12 =>
      if x3 < r13 then (
        cal (F_X4_foundLetter N m12 x4) fun r16 m15 =>
        some (.inl r16, m15)
      ) else (
        some (.inl (-1 : Int32), m12)
      )
    ) else (
      B_X7_answer_20 N m6
    )
  )
set_option maxRecDepth 100000 in
set_option maxHeartbeats 4000000 in
theorem trX_X7_answer {N : Nat} {m m' : Mem} {res : Int32 ⊕ Nat} {x1 : Int32} {x2 : Int32} {x3 : Int32} {x4 : Int32} (hF : F_X7_answer N m x1 x2 x3 x4 = some (res, m')) : TrX yX7_answer wsX7_answer 7 119 3 [q_r 0, q_i x1, q_i x2, q_i x3, q_i x4] m (xo true res) m' := by
  refine trX_of (bytes := cX7_answer) (maxL := 5) (ret := (some .int)) (by decide) rfl (Nat.le_of_ble_eq_true rfl) (fun K hK hR => ?_)
  have hK : KOK K cX7_answer 5 RX7 wsX7_answer 7 3 119 := hK
  show AW K 0 0 [(0, q_r 0), (1, q_i x1), (2, q_i x2), (3, q_i x3), (4, q_i x4)] [] m
  unfold F_X7_answer at hF
  refine aw_aload_n hK 0 rfl dX7_answer_0 ?_
  refine aw_iload_n hK 1 rfl dX7_answer_1 ?_
  rcases calx_some hF with ⟨r3, m2, h1, hF⟩ | ⟨x_4, m2, h1, hF⟩
  · refine aw_cvXr hK (kxb hR) 7 (as := [q_i x1]) (trX_X7_needMachine h1) gX7_answer_X7_needMachine rfl rfl rfl (by decide) (na := 1) (by decide +kernel) rfl ⟨by decide, by decide⟩ (Nat.le_of_ble_eq_true rfl) (Nat.le_of_ble_eq_true rfl) dX7_answer_2 ?_
    refine aw_iload hK 4 rfl dX7_answer_5 ?_
    rcases calx_some hF with ⟨r7, m6, h5, hF⟩ | ⟨x_8, m6, h5, hF⟩
    · refine aw_csXr hK (kxb hR) (as := [q_i x4]) (trX_X7_needPlace h5) gX7_answer_X7_needPlace rfl (na := 1) (by decide +kernel) rfl ⟨by decide, by decide⟩ (Nat.le_of_ble_eq_true rfl) (Nat.le_of_ble_eq_true rfl) dX7_answer_7 ?_
      refine aw_iload_n hK 3 rfl dX7_answer_10 ?_
      refine aw_if_lt hK 20 rfl dX7_answer_11 (fun hc => ?_) (fun hc => ?_)
      · have hF := if_t hF hc
        refine aw_sub [] (lv' := []) rfl ?_
        exact bk_X7_answer_20 hK hR hF
      · have hF := if_f hF hc
        refine aw_iload_n hK 3 rfl dX7_answer_14 ?_
        refine aw_bipush hK (20) rfl dX7_answer_15 ?_
        refine aw_icmp_lt hK 30 rfl dX7_answer_17 (fun hc => ?_) (fun hc => ?_)
        · have hF := if_t hF hc
          refine aw_aload_n hK 0 rfl dX7_answer_30 ?_
          refine aw_iload_n hK 1 rfl dX7_answer_31 ?_
          refine aw_iload_n hK 2 rfl dX7_answer_32 ?_
          obtain ⟨m10, h9, hF⟩ := calv_some hF
          refine aw_cv hK 7 (as := [q_i x1, q_i x2]) (tr_X7_lookUp h9) gX7_answer_X7_lookUp rfl rfl rfl (by decide) (na := 2) (by decide +kernel) rfl ⟨by decide, by decide⟩ (Nat.le_of_ble_eq_true rfl) (Nat.le_of_ble_eq_true rfl) dX7_answer_33 ?_
          refine aw_aload_n hK 0 rfl dX7_answer_36 ?_
          refine gf_7_6 hK rfl (40) rfl (List.mem_of_getElem? (i := 3) rfl) dX7_answer_37 ?_
          refine aw_iload_n hK 3 rfl dX7_answer_40 ?_
          refine aw_iconst hK (1) rfl dX7_answer_41 ?_
          refine aw_iadd hK dX7_answer_42 ?_
          refine aw_iconst hK (0) rfl dX7_answer_43 ?_
          obtain ⟨r13, m12, h11, hF⟩ := cal_some hF
          refine aw_cv hK 4 (as := [q_i (x3 + (1 : Int32)), q_i (0 : Int32)]) (tr_X4_find h11) gX7_answer_X4_find rfl rfl rfl (by decide) (na := 2) (by decide +kernel) rfl ⟨by decide, by decide⟩ (Nat.le_of_ble_eq_true rfl) (Nat.le_of_ble_eq_true rfl) dX7_answer_44 ?_
          refine aw_iload_n hK 3 rfl dX7_answer_47 ?_
          refine aw_icmp_gt hK 53 rfl dX7_answer_48 (fun hc => ?_) (fun hc => ?_)
          · have hF := if_t hF hc
            refine aw_aload_n hK 0 rfl dX7_answer_53 ?_
            refine gf_7_6 hK rfl (40) rfl (List.mem_of_getElem? (i := 3) rfl) dX7_answer_54 ?_
            refine aw_iload hK 4 rfl dX7_answer_57 ?_
            obtain ⟨r16, m15, h14, hF⟩ := cal_some hF
            refine aw_cv hK 4 (as := [q_i x4]) (tr_X4_foundLetter h14) gX7_answer_X4_foundLetter rfl rfl rfl (by decide) (na := 1) (by decide +kernel) rfl ⟨by decide, by decide⟩ (Nat.le_of_ble_eq_true rfl) (Nat.le_of_ble_eq_true rfl) dX7_answer_59 ?_
            obtain ⟨rfl, rfl⟩ := so_inj hF
            exact aw_iretX hK hR rfl (Nat.le_of_ble_eq_true rfl) dX7_answer_62
          · have hF := if_f hF hc
            refine aw_iconst hK (-1) rfl dX7_answer_51 ?_
            obtain ⟨rfl, rfl⟩ := so_inj hF
            exact aw_iretX hK hR rfl (Nat.le_of_ble_eq_true rfl) dX7_answer_52
        · have hF := if_f hF hc
          refine aw_sub [] (lv' := []) rfl ?_
          exact bk_X7_answer_20 hK hR hF
    · obtain ⟨rfl, rfl⟩ := Prod.mk.inj hF
      exact aw_csXx hK hR (as := [q_i x4]) (trX_X7_needPlace h5) gX7_answer_X7_needPlace rfl (na := 1) (by decide +kernel) rfl ⟨by decide, by decide⟩ (Nat.le_of_ble_eq_true rfl) (Nat.le_of_ble_eq_true rfl) dX7_answer_7
  · obtain ⟨rfl, rfl⟩ := Prod.mk.inj hF
    exact aw_cvXx hK hR 7 (as := [q_i x1]) (trX_X7_needMachine h1) gX7_answer_X7_needMachine rfl rfl rfl (by decide) (na := 1) (by decide +kernel) rfl ⟨by decide, by decide⟩ (Nat.le_of_ble_eq_true rfl) (Nat.le_of_ble_eq_true rfl) dX7_answer_2
set_option maxRecDepth 100000 in
set_option maxHeartbeats 4000000 in
theorem bkN_X7_answer_20 {N : Nat} {K : KT} {m' : Mem} {r : Int32} (hK : KOK K cX7_answer 5 RX7 wsX7_answer 7 0 119) (hR : KRet K (some .int) (some r) m') {m : Mem} (hF : B_X7_answer_20 N m = some (.inl r, m')) : AW K 0 20 [] [] m := by
  unfold B_X7_answer_20 at hF
  cases hF
set_option maxRecDepth 100000 in
set_option maxHeartbeats 4000000 in
theorem trN_X7_answer {N : Nat} {m m' : Mem} {r : Int32} {x1 : Int32} {x2 : Int32} {x3 : Int32} {x4 : Int32} (hF : F_X7_answer N m x1 x2 x3 x4 = some (.inl r, m')) : Tr yX7_answer wsX7_answer 7 119 [q_r 0, q_i x1, q_i x2, q_i x3, q_i x4] m (some r) m' := by
  refine tr_of (bytes := cX7_answer) (maxL := 5) (ret := (some .int)) (by decide) rfl (Nat.le_of_ble_eq_true rfl) (fun K hK hR => ?_)
  have hK : KOK K cX7_answer 5 RX7 wsX7_answer 7 0 119 := hK
  show AW K 0 0 [(0, q_r 0), (1, q_i x1), (2, q_i x2), (3, q_i x3), (4, q_i x4)] [] m
  unfold F_X7_answer at hF
  refine aw_aload_n hK 0 rfl dX7_answer_0 ?_
  refine aw_iload_n hK 1 rfl dX7_answer_1 ?_
  rcases calx_some hF with ⟨r3, m2, h1, hF⟩ | ⟨x_4, m2, h1, hF⟩
  · refine aw_cv hK 7 (as := [q_i x1]) (trN_X7_needMachine h1) gX7_answer_X7_needMachine rfl rfl rfl (by decide) (na := 1) (by decide +kernel) rfl ⟨by decide, by decide⟩ (Nat.zero_le _) (Nat.le_of_ble_eq_true rfl) dX7_answer_2 ?_
    refine aw_iload hK 4 rfl dX7_answer_5 ?_
    rcases calx_some hF with ⟨r7, m6, h5, hF⟩ | ⟨x_8, m6, h5, hF⟩
    · refine aw_cs hK (as := [q_i x4]) (trN_X7_needPlace h5) gX7_answer_X7_needPlace rfl (na := 1) (by decide +kernel) rfl ⟨by decide, by decide⟩ (Nat.zero_le _) (Nat.le_of_ble_eq_true rfl) dX7_answer_7 ?_
      refine aw_iload_n hK 3 rfl dX7_answer_10 ?_
      refine aw_if_lt hK 20 rfl dX7_answer_11 (fun hc => ?_) (fun hc => ?_)
      · have hF := if_t hF hc
        refine aw_sub [] (lv' := []) rfl ?_
        exact bkN_X7_answer_20 hK hR hF
      · have hF := if_f hF hc
        refine aw_iload_n hK 3 rfl dX7_answer_14 ?_
        refine aw_bipush hK (20) rfl dX7_answer_15 ?_
        refine aw_icmp_lt hK 30 rfl dX7_answer_17 (fun hc => ?_) (fun hc => ?_)
        · have hF := if_t hF hc
          refine aw_aload_n hK 0 rfl dX7_answer_30 ?_
          refine aw_iload_n hK 1 rfl dX7_answer_31 ?_
          refine aw_iload_n hK 2 rfl dX7_answer_32 ?_
          obtain ⟨m10, h9, hF⟩ := calv_some hF
          refine aw_cv hK 7 (as := [q_i x1, q_i x2]) (tr_X7_lookUp h9) gX7_answer_X7_lookUp rfl rfl rfl (by decide) (na := 2) (by decide +kernel) rfl ⟨by decide, by decide⟩ (Nat.zero_le _) (Nat.le_of_ble_eq_true rfl) dX7_answer_33 ?_
          refine aw_aload_n hK 0 rfl dX7_answer_36 ?_
          refine gf_7_6 hK rfl (40) rfl (List.mem_of_getElem? (i := 3) rfl) dX7_answer_37 ?_
          refine aw_iload_n hK 3 rfl dX7_answer_40 ?_
          refine aw_iconst hK (1) rfl dX7_answer_41 ?_
          refine aw_iadd hK dX7_answer_42 ?_
          refine aw_iconst hK (0) rfl dX7_answer_43 ?_
          obtain ⟨r13, m12, h11, hF⟩ := cal_some hF
          refine aw_cv hK 4 (as := [q_i (x3 + (1 : Int32)), q_i (0 : Int32)]) (tr_X4_find h11) gX7_answer_X4_find rfl rfl rfl (by decide) (na := 2) (by decide +kernel) rfl ⟨by decide, by decide⟩ (Nat.zero_le _) (Nat.le_of_ble_eq_true rfl) dX7_answer_44 ?_
          refine aw_iload_n hK 3 rfl dX7_answer_47 ?_
          refine aw_icmp_gt hK 53 rfl dX7_answer_48 (fun hc => ?_) (fun hc => ?_)
          · have hF := if_t hF hc
            refine aw_aload_n hK 0 rfl dX7_answer_53 ?_
            refine gf_7_6 hK rfl (40) rfl (List.mem_of_getElem? (i := 3) rfl) dX7_answer_54 ?_
            refine aw_iload hK 4 rfl dX7_answer_57 ?_
            obtain ⟨r16, m15, h14, hF⟩ := cal_some hF
            refine aw_cv hK 4 (as := [q_i x4]) (tr_X4_foundLetter h14) gX7_answer_X4_foundLetter rfl rfl rfl (by decide) (na := 1) (by decide +kernel) rfl ⟨by decide, by decide⟩ (Nat.zero_le _) (Nat.le_of_ble_eq_true rfl) dX7_answer_59 ?_
            obtain ⟨e1, rfl⟩ := so_inj hF
            cases e1
            exact aw_iret hK hR rfl dX7_answer_62
          · have hF := if_f hF hc
            refine aw_iconst hK (-1) rfl dX7_answer_51 ?_
            obtain ⟨e1, rfl⟩ := so_inj hF
            cases e1
            exact aw_iret hK hR rfl dX7_answer_52
        · have hF := if_f hF hc
          refine aw_sub [] (lv' := []) rfl ?_
          exact bkN_X7_answer_20 hK hR hF
    · cases hF
  · cases hF
def F_X7_answers (N : Nat) (m : Mem) (x1 : Int32) (x2 : Int32) : Option ((Int32 ⊕ Nat) × Mem) :=
  calx (F_X7_needMachine N m x1) fun r3 m2 =>
  calv (F_X7_lookUp N m2 x1 x2) fun m6 =>
  cal (F_X4_find N m6 (20 : Int32) (0 : Int32)) fun r9 m8 =>
  some (.inl r9, m8)
set_option maxRecDepth 100000 in
set_option maxHeartbeats 4000000 in
theorem trX_X7_answers {N : Nat} {m m' : Mem} {res : Int32 ⊕ Nat} {x1 : Int32} {x2 : Int32} (hF : F_X7_answers N m x1 x2 = some (res, m')) : TrX yX7_answers wsX7_answers 7 119 1 [q_r 0, q_i x1, q_i x2] m (xo true res) m' := by
  refine trX_of (bytes := cX7_answers) (maxL := 3) (ret := (some .int)) (by decide) rfl (Nat.le_of_ble_eq_true rfl) (fun K hK hR => ?_)
  have hK : KOK K cX7_answers 3 RX7 wsX7_answers 7 1 119 := hK
  show AW K 0 0 [(0, q_r 0), (1, q_i x1), (2, q_i x2)] [] m
  unfold F_X7_answers at hF
  refine aw_aload_n hK 0 rfl dX7_answers_0 ?_
  refine aw_iload_n hK 1 rfl dX7_answers_1 ?_
  rcases calx_some hF with ⟨r3, m2, h1, hF⟩ | ⟨x_4, m2, h1, hF⟩
  · refine aw_cvXr hK (kxb hR) 7 (as := [q_i x1]) (trX_X7_needMachine h1) gX7_answers_X7_needMachine rfl rfl rfl (by decide) (na := 1) (by decide +kernel) rfl ⟨by decide, by decide⟩ (Nat.le_of_ble_eq_true rfl) (Nat.le_of_ble_eq_true rfl) dX7_answers_2 ?_
    refine aw_aload_n hK 0 rfl dX7_answers_5 ?_
    refine aw_iload_n hK 1 rfl dX7_answers_6 ?_
    refine aw_iload_n hK 2 rfl dX7_answers_7 ?_
    obtain ⟨m6, h5, hF⟩ := calv_some hF
    refine aw_cv hK 7 (as := [q_i x1, q_i x2]) (tr_X7_lookUp h5) gX7_answers_X7_lookUp rfl rfl rfl (by decide) (na := 2) (by decide +kernel) rfl ⟨by decide, by decide⟩ (Nat.le_of_ble_eq_true rfl) (Nat.le_of_ble_eq_true rfl) dX7_answers_8 ?_
    refine aw_aload_n hK 0 rfl dX7_answers_11 ?_
    refine gf_7_6 hK rfl (40) rfl (List.mem_of_getElem? (i := 1) rfl) dX7_answers_12 ?_
    refine aw_bipush hK (20) rfl dX7_answers_15 ?_
    refine aw_iconst hK (0) rfl dX7_answers_17 ?_
    obtain ⟨r9, m8, h7, hF⟩ := cal_some hF
    refine aw_cv hK 4 (as := [q_i (20 : Int32), q_i (0 : Int32)]) (tr_X4_find h7) gX7_answers_X4_find rfl rfl rfl (by decide) (na := 2) (by decide +kernel) rfl ⟨by decide, by decide⟩ (Nat.le_of_ble_eq_true rfl) (Nat.le_of_ble_eq_true rfl) dX7_answers_18 ?_
    obtain ⟨rfl, rfl⟩ := so_inj hF
    exact aw_iretX hK hR rfl (Nat.le_of_ble_eq_true rfl) dX7_answers_21
  · obtain ⟨rfl, rfl⟩ := Prod.mk.inj hF
    exact aw_cvXx hK hR 7 (as := [q_i x1]) (trX_X7_needMachine h1) gX7_answers_X7_needMachine rfl rfl rfl (by decide) (na := 1) (by decide +kernel) rfl ⟨by decide, by decide⟩ (Nat.le_of_ble_eq_true rfl) (Nat.le_of_ble_eq_true rfl) dX7_answers_2
set_option maxRecDepth 100000 in
set_option maxHeartbeats 4000000 in
theorem trN_X7_answers {N : Nat} {m m' : Mem} {r : Int32} {x1 : Int32} {x2 : Int32} (hF : F_X7_answers N m x1 x2 = some (.inl r, m')) : Tr yX7_answers wsX7_answers 7 119 [q_r 0, q_i x1, q_i x2] m (some r) m' := by
  refine tr_of (bytes := cX7_answers) (maxL := 3) (ret := (some .int)) (by decide) rfl (Nat.le_of_ble_eq_true rfl) (fun K hK hR => ?_)
  have hK : KOK K cX7_answers 3 RX7 wsX7_answers 7 0 119 := hK
  show AW K 0 0 [(0, q_r 0), (1, q_i x1), (2, q_i x2)] [] m
  unfold F_X7_answers at hF
  refine aw_aload_n hK 0 rfl dX7_answers_0 ?_
  refine aw_iload_n hK 1 rfl dX7_answers_1 ?_
  rcases calx_some hF with ⟨r3, m2, h1, hF⟩ | ⟨x_4, m2, h1, hF⟩
  · refine aw_cv hK 7 (as := [q_i x1]) (trN_X7_needMachine h1) gX7_answers_X7_needMachine rfl rfl rfl (by decide) (na := 1) (by decide +kernel) rfl ⟨by decide, by decide⟩ (Nat.zero_le _) (Nat.le_of_ble_eq_true rfl) dX7_answers_2 ?_
    refine aw_aload_n hK 0 rfl dX7_answers_5 ?_
    refine aw_iload_n hK 1 rfl dX7_answers_6 ?_
    refine aw_iload_n hK 2 rfl dX7_answers_7 ?_
    obtain ⟨m6, h5, hF⟩ := calv_some hF
    refine aw_cv hK 7 (as := [q_i x1, q_i x2]) (tr_X7_lookUp h5) gX7_answers_X7_lookUp rfl rfl rfl (by decide) (na := 2) (by decide +kernel) rfl ⟨by decide, by decide⟩ (Nat.zero_le _) (Nat.le_of_ble_eq_true rfl) dX7_answers_8 ?_
    refine aw_aload_n hK 0 rfl dX7_answers_11 ?_
    refine gf_7_6 hK rfl (40) rfl (List.mem_of_getElem? (i := 1) rfl) dX7_answers_12 ?_
    refine aw_bipush hK (20) rfl dX7_answers_15 ?_
    refine aw_iconst hK (0) rfl dX7_answers_17 ?_
    obtain ⟨r9, m8, h7, hF⟩ := cal_some hF
    refine aw_cv hK 4 (as := [q_i (20 : Int32), q_i (0 : Int32)]) (tr_X4_find h7) gX7_answers_X4_find rfl rfl rfl (by decide) (na := 2) (by decide +kernel) rfl ⟨by decide, by decide⟩ (Nat.zero_le _) (Nat.le_of_ble_eq_true rfl) dX7_answers_18 ?_
    obtain ⟨e1, rfl⟩ := so_inj hF
    cases e1
    exact aw_iret hK hR rfl dX7_answers_21
  · cases hF
def F_X7_cost (N : Nat) (m : Mem) (x1 : Int32) (x2 : Int32) : Option ((Int32 ⊕ Nat) × Mem) :=
  calx (F_X7_needMachine N m x1) fun r3 m2 =>
  calv (F_X7_lookUp N m2 x1 x2) fun m6 =>
  cal (F_X4_leastCost N m6) fun r9 m8 =>
  some (.inl r9, m8)
set_option maxRecDepth 100000 in
set_option maxHeartbeats 4000000 in
theorem trX_X7_cost {N : Nat} {m m' : Mem} {res : Int32 ⊕ Nat} {x1 : Int32} {x2 : Int32} (hF : F_X7_cost N m x1 x2 = some (res, m')) : TrX yX7_cost wsX7_cost 7 117 1 [q_r 0, q_i x1, q_i x2] m (xo true res) m' := by
  refine trX_of (bytes := cX7_cost) (maxL := 3) (ret := (some .int)) (by decide) rfl (Nat.le_of_ble_eq_true rfl) (fun K hK hR => ?_)
  have hK : KOK K cX7_cost 3 RX7 wsX7_cost 7 1 117 := hK
  show AW K 0 0 [(0, q_r 0), (1, q_i x1), (2, q_i x2)] [] m
  unfold F_X7_cost at hF
  refine aw_aload_n hK 0 rfl dX7_cost_0 ?_
  refine aw_iload_n hK 1 rfl dX7_cost_1 ?_
  rcases calx_some hF with ⟨r3, m2, h1, hF⟩ | ⟨x_4, m2, h1, hF⟩
  · refine aw_cvXr hK (kxb hR) 7 (as := [q_i x1]) (trX_X7_needMachine h1) gX7_cost_X7_needMachine rfl rfl rfl (by decide) (na := 1) (by decide +kernel) rfl ⟨by decide, by decide⟩ (Nat.le_of_ble_eq_true rfl) (Nat.le_of_ble_eq_true rfl) dX7_cost_2 ?_
    refine aw_aload_n hK 0 rfl dX7_cost_5 ?_
    refine aw_iload_n hK 1 rfl dX7_cost_6 ?_
    refine aw_iload_n hK 2 rfl dX7_cost_7 ?_
    obtain ⟨m6, h5, hF⟩ := calv_some hF
    refine aw_cv hK 7 (as := [q_i x1, q_i x2]) (tr_X7_lookUp h5) gX7_cost_X7_lookUp rfl rfl rfl (by decide) (na := 2) (by decide +kernel) rfl ⟨by decide, by decide⟩ (Nat.le_of_ble_eq_true rfl) (Nat.le_of_ble_eq_true rfl) dX7_cost_8 ?_
    refine aw_aload_n hK 0 rfl dX7_cost_11 ?_
    refine gf_7_6 hK rfl (40) rfl (List.mem_of_getElem? (i := 1) rfl) dX7_cost_12 ?_
    obtain ⟨r9, m8, h7, hF⟩ := cal_some hF
    refine aw_cv hK 4 (as := []) (tr_X4_leastCost h7) gX7_cost_X4_leastCost rfl rfl rfl (by decide) (na := 0) (by decide +kernel) rfl ⟨by decide, by decide⟩ (Nat.le_of_ble_eq_true rfl) (Nat.le_of_ble_eq_true rfl) dX7_cost_15 ?_
    obtain ⟨rfl, rfl⟩ := so_inj hF
    exact aw_iretX hK hR rfl (Nat.le_of_ble_eq_true rfl) dX7_cost_18
  · obtain ⟨rfl, rfl⟩ := Prod.mk.inj hF
    exact aw_cvXx hK hR 7 (as := [q_i x1]) (trX_X7_needMachine h1) gX7_cost_X7_needMachine rfl rfl rfl (by decide) (na := 1) (by decide +kernel) rfl ⟨by decide, by decide⟩ (Nat.le_of_ble_eq_true rfl) (Nat.le_of_ble_eq_true rfl) dX7_cost_2
set_option maxRecDepth 100000 in
set_option maxHeartbeats 4000000 in
theorem trN_X7_cost {N : Nat} {m m' : Mem} {r : Int32} {x1 : Int32} {x2 : Int32} (hF : F_X7_cost N m x1 x2 = some (.inl r, m')) : Tr yX7_cost wsX7_cost 7 117 [q_r 0, q_i x1, q_i x2] m (some r) m' := by
  refine tr_of (bytes := cX7_cost) (maxL := 3) (ret := (some .int)) (by decide) rfl (Nat.le_of_ble_eq_true rfl) (fun K hK hR => ?_)
  have hK : KOK K cX7_cost 3 RX7 wsX7_cost 7 0 117 := hK
  show AW K 0 0 [(0, q_r 0), (1, q_i x1), (2, q_i x2)] [] m
  unfold F_X7_cost at hF
  refine aw_aload_n hK 0 rfl dX7_cost_0 ?_
  refine aw_iload_n hK 1 rfl dX7_cost_1 ?_
  rcases calx_some hF with ⟨r3, m2, h1, hF⟩ | ⟨x_4, m2, h1, hF⟩
  · refine aw_cv hK 7 (as := [q_i x1]) (trN_X7_needMachine h1) gX7_cost_X7_needMachine rfl rfl rfl (by decide) (na := 1) (by decide +kernel) rfl ⟨by decide, by decide⟩ (Nat.zero_le _) (Nat.le_of_ble_eq_true rfl) dX7_cost_2 ?_
    refine aw_aload_n hK 0 rfl dX7_cost_5 ?_
    refine aw_iload_n hK 1 rfl dX7_cost_6 ?_
    refine aw_iload_n hK 2 rfl dX7_cost_7 ?_
    obtain ⟨m6, h5, hF⟩ := calv_some hF
    refine aw_cv hK 7 (as := [q_i x1, q_i x2]) (tr_X7_lookUp h5) gX7_cost_X7_lookUp rfl rfl rfl (by decide) (na := 2) (by decide +kernel) rfl ⟨by decide, by decide⟩ (Nat.zero_le _) (Nat.le_of_ble_eq_true rfl) dX7_cost_8 ?_
    refine aw_aload_n hK 0 rfl dX7_cost_11 ?_
    refine gf_7_6 hK rfl (40) rfl (List.mem_of_getElem? (i := 1) rfl) dX7_cost_12 ?_
    obtain ⟨r9, m8, h7, hF⟩ := cal_some hF
    refine aw_cv hK 4 (as := []) (tr_X4_leastCost h7) gX7_cost_X4_leastCost rfl rfl rfl (by decide) (na := 0) (by decide +kernel) rfl ⟨by decide, by decide⟩ (Nat.zero_le _) (Nat.le_of_ble_eq_true rfl) dX7_cost_15 ?_
    obtain ⟨e1, rfl⟩ := so_inj hF
    cases e1
    exact aw_iret hK hR rfl dX7_cost_18
  · cases hF
