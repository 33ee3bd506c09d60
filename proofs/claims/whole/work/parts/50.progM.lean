def F_X8_thrown (N : Nat) (m : Mem) : Option (Int32 × Mem) :=
  some (m 70 0, m)
set_option maxRecDepth 100000 in
set_option maxHeartbeats 4000000 in
theorem tr_X8_thrown {N : Nat} {m m' : Mem} {r : Int32} (hF : F_X8_thrown N m = some (r, m')) : Tr yX8_thrown wsX8_thrown 0 0 [q_r 70] m (some r) m' := by
  refine tr_of (bytes := cX8_thrown) (maxL := 1) (ret := (some .int)) (by decide) rfl (Nat.le_of_ble_eq_true rfl) (fun K hK hR => ?_)
  have hK : KOK K cX8_thrown 1 RX8 wsX8_thrown 0 0 0 := hK
  show AW K 0 0 [(0, q_r 70)] [] m
  unfold F_X8_thrown at hF
  refine aw_aload_n hK 0 rfl dX8_thrown_0 ?_
  refine gf_8_0 hK rfl (List.mem_of_getElem? (i := 1) rfl) dX8_thrown_1 ?_
  obtain ⟨rfl, rfl⟩ := so_inj hF
  exact aw_iret hK hR rfl dX8_thrown_4
def B_X8_isFine_14 (N : Nat) (m : Mem) (s0 : Int32) : Option (Int32 × Mem) :=
  gd (isb s0) <|
  some (s0, m)
set_option maxRecDepth 100000 in
set_option maxHeartbeats 4000000 in
theorem bk_X8_isFine_14 {N : Nat} {K : KT} {m' : Mem} {r : Int32} (hK : KOK K cX8_isFine 2 RX8 wsX8_isFine 0 0 0) (hR : KRet K (some .boolean) (some r) m') {m : Mem} {s0 : Int32} (hF : B_X8_isFine_14 N m s0 = some (r, m')) : AW K 0 14 [] [q_i s0] m := by
  unfold B_X8_isFine_14 at hF
  obtain ⟨g2, hF⟩ := gd_some hF
  obtain ⟨rfl, rfl⟩ := so_inj hF
  exact aw_iret hK hR (isb_narrow g2) dX8_isFine_14
def F_X8_isFine (N : Nat) (m : Mem) (x1 : Int32) : Option (Int32 × Mem) :=
  bnd (mup m 70 0 x1) fun m1 =>
  if x1 = (0 : Int32) then (
    B_X8_isFine_14 N m1 (1 : Int32)
  ) else (
    B_X8_isFine_14 N m1 (0 : Int32)
  )
set_option maxRecDepth 100000 in
set_option maxHeartbeats 4000000 in
theorem tr_X8_isFine {N : Nat} {m m' : Mem} {r : Int32} {x1 : Int32} (hF : F_X8_isFine N m x1 = some (r, m')) : Tr yX8_isFine wsX8_isFine 0 0 [q_r 70, q_i x1] m (some r) m' := by
  refine tr_of (bytes := cX8_isFine) (maxL := 2) (ret := (some .boolean)) (by decide) rfl (Nat.le_of_ble_eq_true rfl) (fun K hK hR => ?_)
  have hK : KOK K cX8_isFine 2 RX8 wsX8_isFine 0 0 0 := hK
  show AW K 0 0 [(0, q_r 70), (1, q_i x1)] [] m
  unfold F_X8_isFine at hF
  refine aw_aload_n hK 0 rfl dX8_isFine_0 ?_
  refine aw_iload_n hK 1 rfl dX8_isFine_1 ?_
  refine pf_8_0 hK rfl (List.mem_of_getElem? (i := 1) rfl) dX8_isFine_2 ?_
  obtain ⟨m1, hm1, hF⟩ := bnd_some hF
  refine aw_mm hm1 ?_
  refine aw_iload_n hK 1 rfl dX8_isFine_5 ?_
  refine aw_if_ne hK 13 rfl dX8_isFine_6 (fun hc => ?_) (fun hc => ?_)
  · have hF := if_f hF hc
    refine aw_iconst hK (0) rfl dX8_isFine_13 ?_
    refine aw_sub [] (lv' := []) rfl ?_
    exact bk_X8_isFine_14 hK hR hF
  · have hF := if_t hF hc
    refine aw_iconst hK (1) rfl dX8_isFine_9 ?_
    refine aw_goto hK 14 rfl dX8_isFine_10 ?_
    refine aw_sub [] (lv' := []) rfl ?_
    exact bk_X8_isFine_14 hK hR hF
def P_X8_isIn (x0 : Int32) (x1 : Int32) (x2 : Int32) : Int32 :=
  if x0 < x1 then (
    (0 : Int32)
  ) else (
    if x2 < x0 then (
      (0 : Int32)
    ) else (
      (1 : Int32)
    )
  )
def F_X8_isIn (m : Mem) (x0 : Int32) (x1 : Int32) (x2 : Int32) : Option (Int32 × Mem) :=
  if x0 < x1 then (
    some ((0 : Int32), m)
  ) else (
    if x2 < x0 then (
      some ((0 : Int32), m)
    ) else (
      some ((1 : Int32), m)
    )
  )
set_option maxRecDepth 100000 in
set_option maxHeartbeats 4000000 in
theorem tr_X8_isIn {m m' : Mem} {r : Int32} {x0 : Int32} {x1 : Int32} {x2 : Int32} (hF : F_X8_isIn m x0 x1 x2 = some (r, m')) : Tr yX8_isIn wsX8_isIn 0 0 [q_i x0, q_i x1, q_i x2] m (some r) m' := by
  refine tr_of (bytes := cX8_isIn) (maxL := 3) (ret := (some .boolean)) (by decide) rfl (Nat.le_of_ble_eq_true rfl) (fun K hK hR => ?_)
  have hK : KOK K cX8_isIn 3 RX8 wsX8_isIn 0 0 0 := hK
  show AW K 0 0 [(0, q_i x0), (1, q_i x1), (2, q_i x2)] [] m
  unfold F_X8_isIn at hF
  refine aw_iload_n hK 0 rfl dX8_isIn_0 ?_
  refine aw_iload_n hK 1 rfl dX8_isIn_1 ?_
  refine aw_icmp_lt hK 14 rfl dX8_isIn_2 (fun hc => ?_) (fun hc => ?_)
  · have hF := if_t hF hc
    refine aw_iconst hK (0) rfl dX8_isIn_14 ?_
    obtain ⟨rfl, rfl⟩ := so_inj hF
    exact aw_iret hK hR rfl dX8_isIn_15
  · have hF := if_f hF hc
    refine aw_iload_n hK 0 rfl dX8_isIn_5 ?_
    refine aw_iload_n hK 2 rfl dX8_isIn_6 ?_
    refine aw_icmp_gt hK 14 rfl dX8_isIn_7 (fun hc => ?_) (fun hc => ?_)
    · have hF := if_t hF hc
      refine aw_iconst hK (0) rfl dX8_isIn_14 ?_
      obtain ⟨rfl, rfl⟩ := so_inj hF
      exact aw_iret hK hR rfl dX8_isIn_15
    · have hF := if_f hF hc
      refine aw_iconst hK (1) rfl dX8_isIn_10 ?_
      refine aw_goto hK 15 rfl dX8_isIn_11 ?_
      obtain ⟨rfl, rfl⟩ := so_inj hF
      exact aw_iret hK hR rfl dX8_isIn_15
theorem pb_X8_isIn (x0 : Int32) (x1 : Int32) (x2 : Int32) : isb (P_X8_isIn x0 x1 x2) = true := by
  simp only [P_X8_isIn]
  repeat (first | rfl | split)
theorem fp_X8_isIn (m : Mem) (x0 : Int32) (x1 : Int32) (x2 : Int32) : F_X8_isIn m x0 x1 x2 = some (P_X8_isIn x0 x1 x2, m) := by
  simp only [F_X8_isIn, P_X8_isIn]
  repeat (first | rfl | split)
theorem trp_X8_isIn (x0 : Int32) (x1 : Int32) (x2 : Int32) (m : Mem) : Tr yX8_isIn wsX8_isIn 0 0 [q_i x0, q_i x1, q_i x2] m (some (P_X8_isIn x0 x1 x2)) m := tr_X8_isIn (fp_X8_isIn m x0 x1 x2)
def F_X8_isMachine (N : Nat) (m : Mem) (x1 : Int32) : Option (Int32 × Mem) :=
  gd (isb (P_X8_isIn x1 (0 : Int32) ((m 70 11) - (1 : Int32)))) <|
  some (P_X8_isIn x1 (0 : Int32) ((m 70 11) - (1 : Int32)), m)
set_option maxRecDepth 100000 in
set_option maxHeartbeats 4000000 in
theorem tr_X8_isMachine {N : Nat} {m m' : Mem} {r : Int32} {x1 : Int32} (hF : F_X8_isMachine N m x1 = some (r, m')) : Tr yX8_isMachine wsX8_isMachine 1 22 [q_r 70, q_i x1] m (some r) m' := by
  refine tr_of (bytes := cX8_isMachine) (maxL := 2) (ret := (some .boolean)) (by decide) rfl (Nat.le_of_ble_eq_true rfl) (fun K hK hR => ?_)
  have hK : KOK K cX8_isMachine 2 RX8 wsX8_isMachine 1 0 22 := hK
  show AW K 0 0 [(0, q_r 70), (1, q_i x1)] [] m
  unfold F_X8_isMachine at hF
  refine aw_iload_n hK 1 rfl dX8_isMachine_0 ?_
  refine aw_iconst hK (0) rfl dX8_isMachine_1 ?_
  refine aw_aload_n hK 0 rfl dX8_isMachine_2 ?_
  refine gf_8_11 hK rfl (List.mem_of_getElem? (i := 1) rfl) dX8_isMachine_3 ?_
  refine aw_iconst hK (1) rfl dX8_isMachine_6 ?_
  refine aw_isub hK dX8_isMachine_7 ?_
  refine aw_cs hK (as := [q_i x1, q_i (0 : Int32), q_i ((m 70 11) - (1 : Int32))]) (trp_X8_isIn x1 (0 : Int32) ((m 70 11) - (1 : Int32)) _) gX8_isMachine_X8_isIn rfl (na := 3) (by decide +kernel) rfl ⟨by decide, by decide⟩ (Nat.zero_le _) (Nat.le_of_ble_eq_true rfl) dX8_isMachine_8 ?_
  obtain ⟨g1, hF⟩ := gd_some hF
  obtain ⟨rfl, rfl⟩ := so_inj hF
  exact aw_iret hK hR (isb_narrow g1) dX8_isMachine_11
def B_X8_type_29 (N : Nat) (m : Mem) (x1 : Int32) (s0 : Int32) : Option (Int32 × Mem) :=
  cal (F_X8_isFine N m s0) fun r3 m2 =>
  if r3 = (0 : Int32) then (
    some ((0 : Int32), m2)
  ) else (
    gd (inb (m2 70 2) (alen 71)) <|
    bnd (mup m2 71 (ix (m2 70 2)) x1) fun m5 =>
    bnd (mup m5 70 2 ((m5 70 2) + (1 : Int32))) fun m6 =>
    some (m6 70 2, m6)
  )
set_option maxRecDepth 100000 in
set_option maxHeartbeats 4000000 in
theorem bk_X8_type_29 {N : Nat} {K : KT} {m' : Mem} {r : Int32} (hK : KOK K cX8_type 2 RX8 wsX8_type 1 0 22) (hR : KRet K (some .int) (some r) m') {m : Mem} {x1 : Int32} {s0 : Int32} (hF : B_X8_type_29 N m x1 s0 = some (r, m')) : AW K 0 29 [(0, q_r 70), (1, q_i x1)] [q_i s0, q_r 70] m := by
  unfold B_X8_type_29 at hF
  obtain ⟨r3, m2, h1, hF⟩ := cal_some hF
  refine aw_cv hK 8 (as := [q_i s0]) (tr_X8_isFine h1) gX8_type_X8_isFine rfl rfl rfl (by decide) (na := 1) (by decide +kernel) rfl ⟨by decide, by decide⟩ (Nat.zero_le _) (Nat.le_of_ble_eq_true rfl) dX8_type_29 ?_
  refine aw_if_ne hK 37 rfl dX8_type_32 (fun hc => ?_) (fun hc => ?_)
  · have hF := if_f hF hc
    refine aw_aload_n hK 0 rfl dX8_type_37 ?_
    refine gf_8_1 hK rfl (71) rfl (List.mem_of_getElem? (i := 2) rfl) dX8_type_38 ?_
    refine aw_aload_n hK 0 rfl dX8_type_41 ?_
    refine gf_8_2 hK rfl (List.mem_of_getElem? (i := 1) rfl) dX8_type_42 ?_
    refine aw_iload_n hK 1 rfl dX8_type_45 ?_
    obtain ⟨g4, hF⟩ := gd_some hF
    refine aw_iast hK rfl g4 dX8_type_46 ?_
    obtain ⟨m5, hm5, hF⟩ := bnd_some hF
    refine aw_mm hm5 ?_
    refine aw_aload_n hK 0 rfl dX8_type_47 ?_
    refine aw_dup hK rfl dX8_type_48 ?_
    refine gf_8_2 hK rfl (List.mem_of_getElem? (i := 1) rfl) dX8_type_49 ?_
    refine aw_iconst hK (1) rfl dX8_type_52 ?_
    refine aw_iadd hK dX8_type_53 ?_
    refine pf_8_2 hK rfl (List.mem_of_getElem? (i := 1) rfl) dX8_type_54 ?_
    obtain ⟨m6, hm6, hF⟩ := bnd_some hF
    refine aw_mm hm6 ?_
    refine aw_aload_n hK 0 rfl dX8_type_57 ?_
    refine gf_8_2 hK rfl (List.mem_of_getElem? (i := 1) rfl) dX8_type_58 ?_
    obtain ⟨rfl, rfl⟩ := so_inj hF
    exact aw_iret hK hR rfl dX8_type_61
  · have hF := if_t hF hc
    refine aw_iconst hK (0) rfl dX8_type_35 ?_
    obtain ⟨rfl, rfl⟩ := so_inj hF
    exact aw_iret hK hR rfl dX8_type_36
def F_X8_type (N : Nat) (m : Mem) (x1 : Int32) : Option (Int32 × Mem) :=
  if (P_X8_isIn x1 (0 : Int32) (7 : Int32)) = (0 : Int32) then (
    B_X8_type_29 N m x1 (1 : Int32)
  ) else (
    if (m 70 2) = (8 : Int32) then (
      B_X8_type_29 N m x1 (2 : Int32)
    ) else (
      B_X8_type_29 N m x1 (0 : Int32)
    )
  )
set_option maxRecDepth 100000 in
set_option maxHeartbeats 4000000 in
theorem tr_X8_type {N : Nat} {m m' : Mem} {r : Int32} {x1 : Int32} (hF : F_X8_type N m x1 = some (r, m')) : Tr yX8_type wsX8_type 1 22 [q_r 70, q_i x1] m (some r) m' := by
  refine tr_of (bytes := cX8_type) (maxL := 2) (ret := (some .int)) (by decide) rfl (Nat.le_of_ble_eq_true rfl) (fun K hK hR => ?_)
  have hK : KOK K cX8_type 2 RX8 wsX8_type 1 0 22 := hK
  show AW K 0 0 [(0, q_r 70), (1, q_i x1)] [] m
  unfold F_X8_type at hF
  refine aw_aload_n hK 0 rfl dX8_type_0 ?_
  refine aw_iload_n hK 1 rfl dX8_type_1 ?_
  refine aw_iconst hK (0) rfl dX8_type_2 ?_
  refine aw_bipush hK (7) rfl dX8_type_3 ?_
  refine aw_cs hK (as := [q_i x1, q_i (0 : Int32), q_i (7 : Int32)]) (trp_X8_isIn x1 (0 : Int32) (7 : Int32) _) gX8_type_X8_isIn rfl (na := 3) (by decide +kernel) rfl ⟨by decide, by decide⟩ (Nat.zero_le _) (Nat.le_of_ble_eq_true rfl) dX8_type_5 ?_
  refine aw_if_ne hK 15 rfl dX8_type_8 (fun hc => ?_) (fun hc => ?_)
  · have hF := if_f hF hc
    refine aw_aload_n hK 0 rfl dX8_type_15 ?_
    refine gf_8_2 hK rfl (List.mem_of_getElem? (i := 1) rfl) dX8_type_16 ?_
    refine aw_bipush hK (8) rfl dX8_type_19 ?_
    refine aw_icmp_ne hK 28 rfl dX8_type_21 (fun hc => ?_) (fun hc => ?_)
    · have hF := if_f hF hc
      refine aw_iconst hK (0) rfl dX8_type_28 ?_
      refine aw_sub [0, 1] (lv' := [(0, q_r 70), (1, q_i x1)]) rfl ?_
      exact bk_X8_type_29 hK hR hF
    · have hF := if_t hF hc
      refine aw_iconst hK (2) rfl dX8_type_24 ?_
      refine aw_goto hK 29 rfl dX8_type_25 ?_
      refine aw_sub [0, 1] (lv' := [(0, q_r 70), (1, q_i x1)]) rfl ?_
      exact bk_X8_type_29 hK hR hF
  · have hF := if_t hF hc
    refine aw_iconst hK (1) rfl dX8_type_11 ?_
    refine aw_goto hK 29 rfl dX8_type_12 ?_
    refine aw_sub [0, 1] (lv' := [(0, q_r 70), (1, q_i x1)]) rfl ?_
    exact bk_X8_type_29 hK hR hF
def F_X8_clear (N : Nat) (m : Mem) : Option (Int32 × Mem) :=
  bnd (mup m 70 0 (0 : Int32)) fun m1 =>
  bnd (m1 70 2) fun y2 =>
  bnd (mup m1 70 2 (0 : Int32)) fun m3 =>
  some (y2, m3)
set_option maxRecDepth 100000 in
set_option maxHeartbeats 4000000 in
theorem tr_X8_clear {N : Nat} {m m' : Mem} {r : Int32} (hF : F_X8_clear N m = some (r, m')) : Tr yX8_clear wsX8_clear 0 0 [q_r 70] m (some r) m' := by
  refine tr_of (bytes := cX8_clear) (maxL := 2) (ret := (some .int)) (by decide) rfl (Nat.le_of_ble_eq_true rfl) (fun K hK hR => ?_)
  have hK : KOK K cX8_clear 2 RX8 wsX8_clear 0 0 0 := hK
  show AW K 0 0 [(0, q_r 70)] [] m
  unfold F_X8_clear at hF
  refine aw_aload_n hK 0 rfl dX8_clear_0 ?_
  refine aw_iconst hK (0) rfl dX8_clear_1 ?_
  refine pf_8_0 hK rfl (List.mem_of_getElem? (i := 1) rfl) dX8_clear_2 ?_
  obtain ⟨m1, hm1, hF⟩ := bnd_some hF
  refine aw_mm hm1 ?_
  refine aw_aload_n hK 0 rfl dX8_clear_5 ?_
  refine gf_8_2 hK rfl (List.mem_of_getElem? (i := 2) rfl) dX8_clear_6 ?_
  obtain ⟨y2, hy2, hF⟩ := bnd_some hF
  refine aw_nm hy2 ?_
  refine aw_istore_n hK [(1, q_i y2), (0, q_r 70)] (by decide) rfl dX8_clear_9 ?_
  refine aw_aload_n hK 1 rfl dX8_clear_10 ?_
  refine aw_iconst hK (0) rfl dX8_clear_11 ?_
  refine pf_8_2 hK rfl (List.mem_of_getElem? (i := 2) rfl) dX8_clear_12 ?_
  obtain ⟨m3, hm3, hF⟩ := bnd_some hF
  refine aw_mm hm3 ?_
  refine aw_iload_n hK 0 rfl dX8_clear_15 ?_
  obtain ⟨rfl, rfl⟩ := so_inj hF
  exact aw_iret hK hR rfl dX8_clear_16
def S_X8_begins_7 (N : Nat) (rec_7 : Mem → Int32 → Option Mem) (m : Mem) (x1 : Int32) : Option Mem :=
  if (1024 : Int32) ≤ x1 then (
    some m
  ) else (
    gd (inb x1 (alen 82)) <|
    bnd (mup m 82 (ix x1) (0 : Int32)) fun m3 =>
    bnd (x1 + (1 : Int32)) fun y4 =>
    rec_7 m3 y4
  )
def L_X8_begins_7 (N : Nat) : Nat → Mem → Int32 → Option Mem
  | 0 => fun _ _ => none
  | f + 1 => S_X8_begins_7 N (L_X8_begins_7 N f)
set_option maxRecDepth 100000 in
set_option maxHeartbeats 4000000 in
theorem lp_X8_begins_7 {N : Nat} {K : KT} {m' : Mem} (hK : KOK K cX8_begins 2 RX8 wsX8_begins 0 0 0) (hR : KRet K none none m') : ∀ (f : Nat) {m : Mem} {x1 : Int32}, L_X8_begins_7 N f m x1 = some m' → AW K 0 7 [(0, q_r 70), (1, q_i x1)] [] m := by
  intro f
  induction f with
  | zero => intro m x1 hF; cases hF
  | succ f hrec_7 =>
    intro m x1 hF
    have hF : S_X8_begins_7 N (L_X8_begins_7 N f) m x1 = some m' := hF
    unfold S_X8_begins_7 at hF
    refine aw_iload_n hK 1 rfl dX8_begins_7 ?_
    refine aw_sipush hK (1024) rfl dX8_begins_8 ?_
    refine aw_icmp_ge hK 27 rfl dX8_begins_11 (fun hc => ?_) (fun hc => ?_)
    · have hF := if_t hF hc
      obtain rfl := Option.some.inj hF
      exact aw_vret hK hR dX8_begins_27
    · have hF := if_f hF hc
      refine aw_aload_n hK 0 rfl dX8_begins_14 ?_
      refine gf_8_15 hK rfl (82) rfl (List.mem_of_getElem? (i := 2) rfl) dX8_begins_15 ?_
      refine aw_iload_n hK 1 rfl dX8_begins_18 ?_
      refine aw_iconst hK (0) rfl dX8_begins_19 ?_
      obtain ⟨g2, hF⟩ := gd_some hF
      refine aw_zast hK rfl g2 rfl dX8_begins_20 ?_
      obtain ⟨m3, hm3, hF⟩ := bnd_some hF
      refine aw_mm hm3 ?_
      obtain ⟨y4, hy4, hF⟩ := bnd_some hF
      refine aw_iinc hK (cz := 1) 1 [(1, q_i y4), (0, q_r 70)] (by decide) rfl rfl hy4 rfl dX8_begins_21 ?_
      refine aw_goto hK 7 rfl dX8_begins_24 ?_
      refine aw_sub [1, 0] (lv' := [(0, q_r 70), (1, q_i y4)]) rfl ?_
      exact hrec_7 hF
def F_X8_begins (N : Nat) (m : Mem) : Option Mem :=
  bnd (mup m 70 14 (0 : Int32)) fun m1 =>
  L_X8_begins_7 N N m1 (0 : Int32)
set_option maxRecDepth 100000 in
set_option maxHeartbeats 4000000 in
theorem tr_X8_begins {N : Nat} {m m' : Mem} (hF : F_X8_begins N m = some m') : Tr yX8_begins wsX8_begins 0 0 [q_r 70] m none m' := by
  refine tr_of (bytes := cX8_begins) (maxL := 2) (ret := none) (by decide) rfl (Nat.le_of_ble_eq_true rfl) (fun K hK hR => ?_)
  have hK : KOK K cX8_begins 2 RX8 wsX8_begins 0 0 0 := hK
  show AW K 0 0 [(0, q_r 70)] [] m
  unfold F_X8_begins at hF
  refine aw_aload_n hK 0 rfl dX8_begins_0 ?_
  refine aw_iconst hK (0) rfl dX8_begins_1 ?_
  refine pf_8_14 hK rfl (List.mem_of_getElem? (i := 1) rfl) dX8_begins_2 ?_
  obtain ⟨m1, hm1, hF⟩ := bnd_some hF
  refine aw_mm hm1 ?_
  refine aw_iconst hK (0) rfl dX8_begins_5 ?_
  refine aw_istore_n hK [(1, q_i (0 : Int32)), (0, q_r 70)] (by decide) rfl dX8_begins_6 ?_
  refine aw_sub [1, 0] (lv' := [(0, q_r 70), (1, q_i (0 : Int32))]) rfl ?_
  exact lp_X8_begins_7 hK hR _ hF
def F_X8_adds (N : Nat) (m : Mem) (x1 : Int32) (x2 : Int32) (x3 : Int32) (x4 : Int32) (x5 : Int32) : Option Mem :=
  gd (inb (m 70 14) (alen 80)) <|
  bnd (mup m 80 (ix (m 70 14)) ((((q_shl x1 (18 : Int32)) ||| (q_shl x2 (14 : Int32))) ||| (q_shl x3 (10 : Int32))) ||| x5)) fun m2 =>
  gd (inb (m2 70 14) (alen 81)) <|
  bnd (mup m2 81 (ix (m2 70 14)) x4) fun m4 =>
  bnd (mup m4 70 14 ((m4 70 14) + (1 : Int32))) fun m5 =>
  some m5
set_option maxRecDepth 100000 in
set_option maxHeartbeats 4000000 in
theorem tr_X8_adds {N : Nat} {m m' : Mem} {x1 : Int32} {x2 : Int32} {x3 : Int32} {x4 : Int32} {x5 : Int32} (hF : F_X8_adds N m x1 x2 x3 x4 x5 = some m') : Tr yX8_adds wsX8_adds 0 0 [q_r 70, q_i x1, q_i x2, q_i x3, q_i x4, q_i x5] m none m' := by
  refine tr_of (bytes := cX8_adds) (maxL := 6) (ret := none) (by decide) rfl (Nat.le_of_ble_eq_true rfl) (fun K hK hR => ?_)
  have hK : KOK K cX8_adds 6 RX8 wsX8_adds 0 0 0 := hK
  show AW K 0 0 [(0, q_r 70), (1, q_i x1), (2, q_i x2), (3, q_i x3), (4, q_i x4), (5, q_i x5)] [] m
  unfold F_X8_adds at hF
  refine aw_aload_n hK 0 rfl dX8_adds_0 ?_
  refine gf_8_12 hK rfl (80) rfl (List.mem_of_getElem? (i := 1) rfl) dX8_adds_1 ?_
  refine aw_aload_n hK 0 rfl dX8_adds_4 ?_
  refine gf_8_14 hK rfl (List.mem_of_getElem? (i := 2) rfl) dX8_adds_5 ?_
  refine aw_iload_n hK 1 rfl dX8_adds_8 ?_
  refine aw_bipush hK (18) rfl dX8_adds_9 ?_
  refine aw_ishl hK dX8_adds_11 ?_
  refine aw_iload_n hK 2 rfl dX8_adds_12 ?_
  refine aw_bipush hK (14) rfl dX8_adds_13 ?_
  refine aw_ishl hK dX8_adds_15 ?_
  refine aw_ior hK dX8_adds_16 ?_
  refine aw_iload_n hK 3 rfl dX8_adds_17 ?_
  refine aw_bipush hK (10) rfl dX8_adds_18 ?_
  refine aw_ishl hK dX8_adds_20 ?_
  refine aw_ior hK dX8_adds_21 ?_
  refine aw_iload hK 5 rfl dX8_adds_22 ?_
  refine aw_ior hK dX8_adds_24 ?_
  obtain ⟨g1, hF⟩ := gd_some hF
  refine aw_iast hK rfl g1 dX8_adds_25 ?_
  obtain ⟨m2, hm2, hF⟩ := bnd_some hF
  refine aw_mm hm2 ?_
  refine aw_aload_n hK 0 rfl dX8_adds_26 ?_
  refine gf_8_13 hK rfl (81) rfl (List.mem_of_getElem? (i := 3) rfl) dX8_adds_27 ?_
  refine aw_aload_n hK 0 rfl dX8_adds_30 ?_
  refine gf_8_14 hK rfl (List.mem_of_getElem? (i := 2) rfl) dX8_adds_31 ?_
  refine aw_iload hK 4 rfl dX8_adds_34 ?_
  obtain ⟨g3, hF⟩ := gd_some hF
  refine aw_iast hK rfl g3 dX8_adds_36 ?_
  obtain ⟨m4, hm4, hF⟩ := bnd_some hF
  refine aw_mm hm4 ?_
  refine aw_aload_n hK 0 rfl dX8_adds_37 ?_
  refine aw_dup hK rfl dX8_adds_38 ?_
  refine gf_8_14 hK rfl (List.mem_of_getElem? (i := 2) rfl) dX8_adds_39 ?_
  refine aw_iconst hK (1) rfl dX8_adds_42 ?_
  refine aw_iadd hK dX8_adds_43 ?_
  refine pf_8_14 hK rfl (List.mem_of_getElem? (i := 2) rfl) dX8_adds_44 ?_
  obtain ⟨m5, hm5, hF⟩ := bnd_some hF
  refine aw_mm hm5 ?_
  obtain rfl := Option.some.inj hF
  exact aw_vret hK hR dX8_adds_47
def P_X8_sourceOf (x0 : Int32) : Int32 :=
  q_shr x0 (18 : Int32)
def F_X8_sourceOf (m : Mem) (x0 : Int32) : Option (Int32 × Mem) :=
  some (q_shr x0 (18 : Int32), m)
set_option maxRecDepth 100000 in
set_option maxHeartbeats 4000000 in
theorem tr_X8_sourceOf {m m' : Mem} {r : Int32} {x0 : Int32} (hF : F_X8_sourceOf m x0 = some (r, m')) : Tr yX8_sourceOf wsX8_sourceOf 0 0 [q_i x0] m (some r) m' := by
  refine tr_of (bytes := cX8_sourceOf) (maxL := 1) (ret := (some .int)) (by decide) rfl (Nat.le_of_ble_eq_true rfl) (fun K hK hR => ?_)
  have hK : KOK K cX8_sourceOf 1 RX8 wsX8_sourceOf 0 0 0 := hK
  show AW K 0 0 [(0, q_i x0)] [] m
  unfold F_X8_sourceOf at hF
  refine aw_iload_n hK 0 rfl dX8_sourceOf_0 ?_
  refine aw_bipush hK (18) rfl dX8_sourceOf_1 ?_
  refine aw_ishr hK dX8_sourceOf_3 ?_
  obtain ⟨rfl, rfl⟩ := so_inj hF
  exact aw_iret hK hR rfl dX8_sourceOf_4
theorem fp_X8_sourceOf (m : Mem) (x0 : Int32) : F_X8_sourceOf m x0 = some (P_X8_sourceOf x0, m) := by
  simp only [F_X8_sourceOf, P_X8_sourceOf]
  repeat (first | rfl | split)
theorem trp_X8_sourceOf (x0 : Int32) (m : Mem) : Tr yX8_sourceOf wsX8_sourceOf 0 0 [q_i x0] m (some (P_X8_sourceOf x0)) m := tr_X8_sourceOf (fp_X8_sourceOf m x0)
def P_X8_targetOf (x0 : Int32) : Int32 :=
  x0 &&& (1023 : Int32)
def F_X8_targetOf (m : Mem) (x0 : Int32) : Option (Int32 × Mem) :=
  some (x0 &&& (1023 : Int32), m)
set_option maxRecDepth 100000 in
set_option maxHeartbeats 4000000 in
theorem tr_X8_targetOf {m m' : Mem} {r : Int32} {x0 : Int32} (hF : F_X8_targetOf m x0 = some (r, m')) : Tr yX8_targetOf wsX8_targetOf 0 0 [q_i x0] m (some r) m' := by
  refine tr_of (bytes := cX8_targetOf) (maxL := 1) (ret := (some .int)) (by decide) rfl (Nat.le_of_ble_eq_true rfl) (fun K hK hR => ?_)
  have hK : KOK K cX8_targetOf 1 RX8 wsX8_targetOf 0 0 0 := hK
  show AW K 0 0 [(0, q_i x0)] [] m
  unfold F_X8_targetOf at hF
  refine aw_iload_n hK 0 rfl dX8_targetOf_0 ?_
  refine aw_sipush hK (1023) rfl dX8_targetOf_1 ?_
  refine aw_iand hK dX8_targetOf_4 ?_
  obtain ⟨rfl, rfl⟩ := so_inj hF
  exact aw_iret hK hR rfl dX8_targetOf_5
theorem fp_X8_targetOf (m : Mem) (x0 : Int32) : F_X8_targetOf m x0 = some (P_X8_targetOf x0, m) := by
  simp only [F_X8_targetOf, P_X8_targetOf]
  repeat (first | rfl | split)
theorem trp_X8_targetOf (x0 : Int32) (m : Mem) : Tr yX8_targetOf wsX8_targetOf 0 0 [q_i x0] m (some (P_X8_targetOf x0)) m := tr_X8_targetOf (fp_X8_targetOf m x0)
def B_X8_reaches_208 (N : Nat) (rec_45 : Mem → Int32 → Option Mem) (rec_53 : Mem → Int32 → Int32 → Option Mem) (m : Mem) (x3 : Int32) (s0 : Int32) : Option Mem :=
  bnd (x3 + (1 : Int32)) fun y25 =>
  rec_53 m s0 y25
set_option maxRecDepth 100000 in
set_option maxHeartbeats 4000000 in
theorem bk_X8_reaches_208 {N : Nat} {K : KT} {m' : Mem} {rec_45 : Mem → Int32 → Option Mem} {rec_53 : Mem → Int32 → Int32 → Option Mem} (hK : KOK K cX8_reaches 7 RX8 wsX8_reaches 1 0 20) (hR : KRet K none none m') (hrec_45 : ∀ {m : Mem} {x2 : Int32}, rec_45 m x2 = some m' → AW K 0 45 [(0, q_r 70), (2, q_i x2)] [] m) (hrec_53 : ∀ {m : Mem} {x2 : Int32} {x3 : Int32}, rec_53 m x2 x3 = some m' → AW K 0 53 [(0, q_r 70), (2, q_i x2), (3, q_i x3)] [] m) {m : Mem} {x3 : Int32} {s0 : Int32} (hF : B_X8_reaches_208 N rec_45 rec_53 m x3 s0 = some m') : AW K 0 208 [(0, q_r 70), (3, q_i x3)] [q_i s0] m := by
  unfold B_X8_reaches_208 at hF
  refine aw_istore_n hK [(2, q_i s0), (0, q_r 70), (3, q_i x3)] (by decide) rfl dX8_reaches_208 ?_
  obtain ⟨y25, hy25, hF⟩ := bnd_some hF
  refine aw_iinc hK (cz := 1) 2 [(3, q_i y25), (2, q_i s0), (0, q_r 70)] (by decide) rfl rfl hy25 rfl dX8_reaches_209 ?_
  refine aw_goto hK 53 rfl dX8_reaches_212 ?_
  refine aw_sub [2, 1, 0] (lv' := [(0, q_r 70), (2, q_i s0), (3, q_i y25)]) rfl ?_
  exact hrec_53 hF
def B_X8_reaches_203 (N : Nat) (rec_45 : Mem → Int32 → Option Mem) (rec_53 : Mem → Int32 → Int32 → Option Mem) (m : Mem) (x3 : Int32) : Option Mem :=
  B_X8_reaches_208 N rec_45 rec_53 m x3 (1 : Int32)
set_option maxRecDepth 100000 in
set_option maxHeartbeats 4000000 in
theorem bk_X8_reaches_203 {N : Nat} {K : KT} {m' : Mem} {rec_45 : Mem → Int32 → Option Mem} {rec_53 : Mem → Int32 → Int32 → Option Mem} (hK : KOK K cX8_reaches 7 RX8 wsX8_reaches 1 0 20) (hR : KRet K none none m') (hrec_45 : ∀ {m : Mem} {x2 : Int32}, rec_45 m x2 = some m' → AW K 0 45 [(0, q_r 70), (2, q_i x2)] [] m) (hrec_53 : ∀ {m : Mem} {x2 : Int32} {x3 : Int32}, rec_53 m x2 x3 = some m' → AW K 0 53 [(0, q_r 70), (2, q_i x2), (3, q_i x3)] [] m) {m : Mem} {x3 : Int32} (hF : B_X8_reaches_203 N rec_45 rec_53 m x3 = some m') : AW K 0 203 [(0, q_r 70), (3, q_i x3)] [] m := by
  unfold B_X8_reaches_203 at hF
  refine aw_iconst hK (1) rfl dX8_reaches_203 ?_
  refine aw_goto hK 208 rfl dX8_reaches_204 ?_
  refine aw_sub [0, 1] (lv' := [(0, q_r 70), (3, q_i x3)]) rfl ?_
  exact bk_X8_reaches_208 hK hR hrec_45 hrec_53 hF
def B_X8_reaches_193 (N : Nat) (rec_45 : Mem → Int32 → Option Mem) (rec_53 : Mem → Int32 → Int32 → Option Mem) (m : Mem) (x2 : Int32) (x3 : Int32) (x6 : Int32) (s0 : Int32) (s1 : Int32) : Option Mem :=
  gd (inb s1 (alen 84)) <|
  gd (isb s0) <|
  bnd (mup m 84 (ix s1) s0) fun m24 =>
  if x2 = (0 : Int32) then (
    if x6 = (0 : Int32) then (
      B_X8_reaches_208 N rec_45 rec_53 m24 x3 (0 : Int32)
    ) else (
      B_X8_reaches_203 N rec_45 rec_53 m24 x3
    )
  ) else (
    B_X8_reaches_203 N rec_45 rec_53 m24 x3
  )
set_option maxRecDepth 100000 in
set_option maxHeartbeats 4000000 in
theorem bk_X8_reaches_193 {N : Nat} {K : KT} {m' : Mem} {rec_45 : Mem → Int32 → Option Mem} {rec_53 : Mem → Int32 → Int32 → Option Mem} (hK : KOK K cX8_reaches 7 RX8 wsX8_reaches 1 0 20) (hR : KRet K none none m') (hrec_45 : ∀ {m : Mem} {x2 : Int32}, rec_45 m x2 = some m' → AW K 0 45 [(0, q_r 70), (2, q_i x2)] [] m) (hrec_53 : ∀ {m : Mem} {x2 : Int32} {x3 : Int32}, rec_53 m x2 x3 = some m' → AW K 0 53 [(0, q_r 70), (2, q_i x2), (3, q_i x3)] [] m) {m : Mem} {x2 : Int32} {x3 : Int32} {x6 : Int32} {s0 : Int32} {s1 : Int32} (hF : B_X8_reaches_193 N rec_45 rec_53 m x2 x3 x6 s0 s1 = some m') : AW K 0 193 [(0, q_r 70), (2, q_i x2), (3, q_i x3), (6, q_i x6)] [q_i s0, q_i s1, q_r 84] m := by
  unfold B_X8_reaches_193 at hF
  obtain ⟨g22, hF⟩ := gd_some hF
  obtain ⟨g23, hF⟩ := gd_some hF
  refine aw_zast hK rfl g22 g23 dX8_reaches_193 ?_
  obtain ⟨m24, hm24, hF⟩ := bnd_some hF
  refine aw_mm hm24 ?_
  refine aw_iload_n hK 1 rfl dX8_reaches_194 ?_
  refine aw_if_ne hK 203 rfl dX8_reaches_195 (fun hc => ?_) (fun hc => ?_)
  · have hF := if_f hF hc
    refine aw_sub [0, 2] (lv' := [(0, q_r 70), (3, q_i x3)]) rfl ?_
    exact bk_X8_reaches_203 hK hR hrec_45 hrec_53 hF
  · have hF := if_t hF hc
    refine aw_iload hK 3 rfl dX8_reaches_198 ?_
    refine aw_if_eq hK 207 rfl dX8_reaches_200 (fun hc => ?_) (fun hc => ?_)
    · have hF := if_t hF hc
      refine aw_iconst hK (0) rfl dX8_reaches_207 ?_
      refine aw_sub [0, 2] (lv' := [(0, q_r 70), (3, q_i x3)]) rfl ?_
      exact bk_X8_reaches_208 hK hR hrec_45 hrec_53 hF
    · have hF := if_f hF hc
      refine aw_sub [0, 2] (lv' := [(0, q_r 70), (3, q_i x3)]) rfl ?_
      exact bk_X8_reaches_203 hK hR hrec_45 hrec_53 hF
def B_X8_reaches_188 (N : Nat) (rec_45 : Mem → Int32 → Option Mem) (rec_53 : Mem → Int32 → Int32 → Option Mem) (m : Mem) (x2 : Int32) (x3 : Int32) (x6 : Int32) (s0 : Int32) : Option Mem :=
  B_X8_reaches_193 N rec_45 rec_53 m x2 x3 x6 (1 : Int32) s0
set_option maxRecDepth 100000 in
set_option maxHeartbeats 4000000 in
theorem bk_X8_reaches_188 {N : Nat} {K : KT} {m' : Mem} {rec_45 : Mem → Int32 → Option Mem} {rec_53 : Mem → Int32 → Int32 → Option Mem} (hK : KOK K cX8_reaches 7 RX8 wsX8_reaches 1 0 20) (hR : KRet K none none m') (hrec_45 : ∀ {m : Mem} {x2 : Int32}, rec_45 m x2 = some m' → AW K 0 45 [(0, q_r 70), (2, q_i x2)] [] m) (hrec_53 : ∀ {m : Mem} {x2 : Int32} {x3 : Int32}, rec_53 m x2 x3 = some m' → AW K 0 53 [(0, q_r 70), (2, q_i x2), (3, q_i x3)] [] m) {m : Mem} {x2 : Int32} {x3 : Int32} {x6 : Int32} {s0 : Int32} (hF : B_X8_reaches_188 N rec_45 rec_53 m x2 x3 x6 s0 = some m') : AW K 0 188 [(0, q_r 70), (2, q_i x2), (3, q_i x3), (6, q_i x6)] [q_i s0, q_r 84] m := by
  unfold B_X8_reaches_188 at hF
  refine aw_iconst hK (1) rfl dX8_reaches_188 ?_
  refine aw_goto hK 193 rfl dX8_reaches_189 ?_
  refine aw_sub [0, 1, 2, 3] (lv' := [(0, q_r 70), (2, q_i x2), (3, q_i x3), (6, q_i x6)]) rfl ?_
  exact bk_X8_reaches_193 hK hR hrec_45 hrec_53 hF
def B_X8_reaches_161 (N : Nat) (rec_45 : Mem → Int32 → Option Mem) (rec_53 : Mem → Int32 → Int32 → Option Mem) (m : Mem) (x2 : Int32) (x3 : Int32) (x4 : Int32) (x5 : Int32) (x6 : Int32) (s0 : Int32) (s1 : Int32) : Option Mem :=
  gd (inb s1 (alen 83)) <|
  gd (isb s0) <|
  bnd (mup m 83 (ix s1) s0) fun m19 =>
  gd (inb x4 (alen 84)) <|
  if (m19 84 (ix x4)) = (0 : Int32) then (
    gd (inb x5 (alen 84)) <|
    if (m19 84 (ix x5)) = (0 : Int32) then (
      B_X8_reaches_193 N rec_45 rec_53 m19 x2 x3 x6 (0 : Int32) x4
    ) else (
      B_X8_reaches_188 N rec_45 rec_53 m19 x2 x3 x6 x4
    )
  ) else (
    B_X8_reaches_188 N rec_45 rec_53 m19 x2 x3 x6 x4
  )
set_option maxRecDepth 100000 in
set_option maxHeartbeats 4000000 in
theorem bk_X8_reaches_161 {N : Nat} {K : KT} {m' : Mem} {rec_45 : Mem → Int32 → Option Mem} {rec_53 : Mem → Int32 → Int32 → Option Mem} (hK : KOK K cX8_reaches 7 RX8 wsX8_reaches 1 0 20) (hR : KRet K none none m') (hrec_45 : ∀ {m : Mem} {x2 : Int32}, rec_45 m x2 = some m' → AW K 0 45 [(0, q_r 70), (2, q_i x2)] [] m) (hrec_53 : ∀ {m : Mem} {x2 : Int32} {x3 : Int32}, rec_53 m x2 x3 = some m' → AW K 0 53 [(0, q_r 70), (2, q_i x2), (3, q_i x3)] [] m) {m : Mem} {x2 : Int32} {x3 : Int32} {x4 : Int32} {x5 : Int32} {x6 : Int32} {s0 : Int32} {s1 : Int32} (hF : B_X8_reaches_161 N rec_45 rec_53 m x2 x3 x4 x5 x6 s0 s1 = some m') : AW K 0 161 [(0, q_r 70), (2, q_i x2), (3, q_i x3), (4, q_i x4), (5, q_i x5), (6, q_i x6)] [q_i s0, q_i s1, q_r 83] m := by
  unfold B_X8_reaches_161 at hF
  obtain ⟨g17, hF⟩ := gd_some hF
  obtain ⟨g18, hF⟩ := gd_some hF
  refine aw_zast hK rfl g17 g18 dX8_reaches_161 ?_
  obtain ⟨m19, hm19, hF⟩ := bnd_some hF
  refine aw_mm hm19 ?_
  refine aw_aload_n hK 0 rfl dX8_reaches_162 ?_
  refine gf_8_17 hK rfl (84) rfl (List.mem_of_getElem? (i := 2) rfl) dX8_reaches_163 ?_
  refine aw_iload hK 3 rfl dX8_reaches_166 ?_
  refine aw_aload_n hK 0 rfl dX8_reaches_168 ?_
  refine gf_8_17 hK rfl (84) rfl (List.mem_of_getElem? (i := 2) rfl) dX8_reaches_169 ?_
  refine aw_iload hK 3 rfl dX8_reaches_172 ?_
  obtain ⟨g20, hF⟩ := gd_some hF
  refine aw_zald hK rfl g20 dX8_reaches_174 ?_
  refine aw_if_ne hK 188 rfl dX8_reaches_175 (fun hc => ?_) (fun hc => ?_)
  · have hF := if_f hF hc
    refine aw_sub [0, 1, 2, 5] (lv' := [(0, q_r 70), (2, q_i x2), (3, q_i x3), (6, q_i x6)]) rfl ?_
    exact bk_X8_reaches_188 hK hR hrec_45 hrec_53 hF
  · have hF := if_t hF hc
    refine aw_aload_n hK 0 rfl dX8_reaches_178 ?_
    refine gf_8_17 hK rfl (84) rfl (List.mem_of_getElem? (i := 2) rfl) dX8_reaches_179 ?_
    refine aw_iload hK 4 rfl dX8_reaches_182 ?_
    obtain ⟨g21, hF⟩ := gd_some hF
    refine aw_zald hK rfl g21 dX8_reaches_184 ?_
    refine aw_if_eq hK 192 rfl dX8_reaches_185 (fun hc => ?_) (fun hc => ?_)
    · have hF := if_t hF hc
      refine aw_iconst hK (0) rfl dX8_reaches_192 ?_
      refine aw_sub [0, 1, 2, 5] (lv' := [(0, q_r 70), (2, q_i x2), (3, q_i x3), (6, q_i x6)]) rfl ?_
      exact bk_X8_reaches_193 hK hR hrec_45 hrec_53 hF
    · have hF := if_f hF hc
      refine aw_sub [0, 1, 2, 5] (lv' := [(0, q_r 70), (2, q_i x2), (3, q_i x3), (6, q_i x6)]) rfl ?_
      exact bk_X8_reaches_188 hK hR hrec_45 hrec_53 hF
def B_X8_reaches_156 (N : Nat) (rec_45 : Mem → Int32 → Option Mem) (rec_53 : Mem → Int32 → Int32 → Option Mem) (m : Mem) (x2 : Int32) (x3 : Int32) (x4 : Int32) (x5 : Int32) (x6 : Int32) (s0 : Int32) : Option Mem :=
  B_X8_reaches_161 N rec_45 rec_53 m x2 x3 x4 x5 x6 (1 : Int32) s0
set_option maxRecDepth 100000 in
set_option maxHeartbeats 4000000 in
theorem bk_X8_reaches_156 {N : Nat} {K : KT} {m' : Mem} {rec_45 : Mem → Int32 → Option Mem} {rec_53 : Mem → Int32 → Int32 → Option Mem} (hK : KOK K cX8_reaches 7 RX8 wsX8_reaches 1 0 20) (hR : KRet K none none m') (hrec_45 : ∀ {m : Mem} {x2 : Int32}, rec_45 m x2 = some m' → AW K 0 45 [(0, q_r 70), (2, q_i x2)] [] m) (hrec_53 : ∀ {m : Mem} {x2 : Int32} {x3 : Int32}, rec_53 m x2 x3 = some m' → AW K 0 53 [(0, q_r 70), (2, q_i x2), (3, q_i x3)] [] m) {m : Mem} {x2 : Int32} {x3 : Int32} {x4 : Int32} {x5 : Int32} {x6 : Int32} {s0 : Int32} (hF : B_X8_reaches_156 N rec_45 rec_53 m x2 x3 x4 x5 x6 s0 = some m') : AW K 0 156 [(0, q_r 70), (2, q_i x2), (3, q_i x3), (4, q_i x4), (5, q_i x5), (6, q_i x6)] [q_i s0, q_r 83] m := by
  unfold B_X8_reaches_156 at hF
  refine aw_iconst hK (1) rfl dX8_reaches_156 ?_
  refine aw_goto hK 161 rfl dX8_reaches_157 ?_
  refine aw_sub [0, 1, 2, 3, 4, 5] (lv' := [(0, q_r 70), (2, q_i x2), (3, q_i x3), (4, q_i x4), (5, q_i x5), (6, q_i x6)]) rfl ?_
  exact bk_X8_reaches_161 hK hR hrec_45 hrec_53 hF
def B_X8_reaches_128 (N : Nat) (rec_45 : Mem → Int32 → Option Mem) (rec_53 : Mem → Int32 → Int32 → Option Mem) (m : Mem) (x2 : Int32) (x3 : Int32) (x4 : Int32) (x5 : Int32) (s0 : Int32) : Option Mem :=
  gd (inb x5 (alen 83)) <|
  if (m 83 (ix x5)) = (0 : Int32) then (
    gd (inb x4 (alen 83)) <|
    if (m 83 (ix x4)) = (0 : Int32) then (
      B_X8_reaches_161 N rec_45 rec_53 m x2 x3 x4 x5 s0 (0 : Int32) x5
    ) else (
      B_X8_reaches_156 N rec_45 rec_53 m x2 x3 x4 x5 s0 x5
    )
  ) else (
    B_X8_reaches_156 N rec_45 rec_53 m x2 x3 x4 x5 s0 x5
  )
set_option maxRecDepth 100000 in
set_option maxHeartbeats 4000000 in
theorem bk_X8_reaches_128 {N : Nat} {K : KT} {m' : Mem} {rec_45 : Mem → Int32 → Option Mem} {rec_53 : Mem → Int32 → Int32 → Option Mem} (hK : KOK K cX8_reaches 7 RX8 wsX8_reaches 1 0 20) (hR : KRet K none none m') (hrec_45 : ∀ {m : Mem} {x2 : Int32}, rec_45 m x2 = some m' → AW K 0 45 [(0, q_r 70), (2, q_i x2)] [] m) (hrec_53 : ∀ {m : Mem} {x2 : Int32} {x3 : Int32}, rec_53 m x2 x3 = some m' → AW K 0 53 [(0, q_r 70), (2, q_i x2), (3, q_i x3)] [] m) {m : Mem} {x2 : Int32} {x3 : Int32} {x4 : Int32} {x5 : Int32} {s0 : Int32} (hF : B_X8_reaches_128 N rec_45 rec_53 m x2 x3 x4 x5 s0 = some m') : AW K 0 128 [(0, q_r 70), (2, q_i x2), (3, q_i x3), (4, q_i x4), (5, q_i x5)] [q_i s0] m := by
  unfold B_X8_reaches_128 at hF
  refine aw_istore hK [(6, q_i s0), (0, q_r 70), (2, q_i x2), (3, q_i x3), (4, q_i x4), (5, q_i x5)] (by decide) rfl dX8_reaches_128 ?_
  refine aw_aload_n hK 1 rfl dX8_reaches_130 ?_
  refine gf_8_16 hK rfl (83) rfl (List.mem_of_getElem? (i := 1) rfl) dX8_reaches_131 ?_
  refine aw_iload hK 5 rfl dX8_reaches_134 ?_
  refine aw_aload_n hK 1 rfl dX8_reaches_136 ?_
  refine gf_8_16 hK rfl (83) rfl (List.mem_of_getElem? (i := 1) rfl) dX8_reaches_137 ?_
  refine aw_iload hK 5 rfl dX8_reaches_140 ?_
  obtain ⟨g15, hF⟩ := gd_some hF
  refine aw_zald hK rfl g15 dX8_reaches_142 ?_
  refine aw_if_ne hK 156 rfl dX8_reaches_143 (fun hc => ?_) (fun hc => ?_)
  · have hF := if_f hF hc
    refine aw_sub [1, 2, 3, 4, 5, 0] (lv' := [(0, q_r 70), (2, q_i x2), (3, q_i x3), (4, q_i x4), (5, q_i x5), (6, q_i s0)]) rfl ?_
    exact bk_X8_reaches_156 hK hR hrec_45 hrec_53 hF
  · have hF := if_t hF hc
    refine aw_aload_n hK 1 rfl dX8_reaches_146 ?_
    refine gf_8_16 hK rfl (83) rfl (List.mem_of_getElem? (i := 1) rfl) dX8_reaches_147 ?_
    refine aw_iload hK 4 rfl dX8_reaches_150 ?_
    obtain ⟨g16, hF⟩ := gd_some hF
    refine aw_zald hK rfl g16 dX8_reaches_152 ?_
    refine aw_if_eq hK 160 rfl dX8_reaches_153 (fun hc => ?_) (fun hc => ?_)
    · have hF := if_t hF hc
      refine aw_iconst hK (0) rfl dX8_reaches_160 ?_
      refine aw_sub [1, 2, 3, 4, 5, 0] (lv' := [(0, q_r 70), (2, q_i x2), (3, q_i x3), (4, q_i x4), (5, q_i x5), (6, q_i s0)]) rfl ?_
      exact bk_X8_reaches_161 hK hR hrec_45 hrec_53 hF
    · have hF := if_f hF hc
      refine aw_sub [1, 2, 3, 4, 5, 0] (lv' := [(0, q_r 70), (2, q_i x2), (3, q_i x3), (4, q_i x4), (5, q_i x5), (6, q_i s0)]) rfl ?_
      exact bk_X8_reaches_156 hK hR hrec_45 hrec_53 hF
def B_X8_reaches_123 (N : Nat) (rec_45 : Mem → Int32 → Option Mem) (rec_53 : Mem → Int32 → Int32 → Option Mem) (m : Mem) (x2 : Int32) (x3 : Int32) (x4 : Int32) (x5 : Int32) : Option Mem :=
  B_X8_reaches_128 N rec_45 rec_53 m x2 x3 x4 x5 (1 : Int32)
set_option maxRecDepth 100000 in
set_option maxHeartbeats 4000000 in
theorem bk_X8_reaches_123 {N : Nat} {K : KT} {m' : Mem} {rec_45 : Mem → Int32 → Option Mem} {rec_53 : Mem → Int32 → Int32 → Option Mem} (hK : KOK K cX8_reaches 7 RX8 wsX8_reaches 1 0 20) (hR : KRet K none none m') (hrec_45 : ∀ {m : Mem} {x2 : Int32}, rec_45 m x2 = some m' → AW K 0 45 [(0, q_r 70), (2, q_i x2)] [] m) (hrec_53 : ∀ {m : Mem} {x2 : Int32} {x3 : Int32}, rec_53 m x2 x3 = some m' → AW K 0 53 [(0, q_r 70), (2, q_i x2), (3, q_i x3)] [] m) {m : Mem} {x2 : Int32} {x3 : Int32} {x4 : Int32} {x5 : Int32} (hF : B_X8_reaches_123 N rec_45 rec_53 m x2 x3 x4 x5 = some m') : AW K 0 123 [(0, q_r 70), (2, q_i x2), (3, q_i x3), (4, q_i x4), (5, q_i x5)] [] m := by
  unfold B_X8_reaches_123 at hF
  refine aw_iconst hK (1) rfl dX8_reaches_123 ?_
  refine aw_goto hK 128 rfl dX8_reaches_124 ?_
  refine aw_sub [0, 1, 2, 3, 4] (lv' := [(0, q_r 70), (2, q_i x2), (3, q_i x3), (4, q_i x4), (5, q_i x5)]) rfl ?_
  exact bk_X8_reaches_128 hK hR hrec_45 hrec_53 hF
def B_X8_reaches_127 (N : Nat) (rec_45 : Mem → Int32 → Option Mem) (rec_53 : Mem → Int32 → Int32 → Option Mem) (m : Mem) (x2 : Int32) (x3 : Int32) (x4 : Int32) (x5 : Int32) : Option Mem :=
  B_X8_reaches_128 N rec_45 rec_53 m x2 x3 x4 x5 (0 : Int32)
set_option maxRecDepth 100000 in
set_option maxHeartbeats 4000000 in
theorem bk_X8_reaches_127 {N : Nat} {K : KT} {m' : Mem} {rec_45 : Mem → Int32 → Option Mem} {rec_53 : Mem → Int32 → Int32 → Option Mem} (hK : KOK K cX8_reaches 7 RX8 wsX8_reaches 1 0 20) (hR : KRet K none none m') (hrec_45 : ∀ {m : Mem} {x2 : Int32}, rec_45 m x2 = some m' → AW K 0 45 [(0, q_r 70), (2, q_i x2)] [] m) (hrec_53 : ∀ {m : Mem} {x2 : Int32} {x3 : Int32}, rec_53 m x2 x3 = some m' → AW K 0 53 [(0, q_r 70), (2, q_i x2), (3, q_i x3)] [] m) {m : Mem} {x2 : Int32} {x3 : Int32} {x4 : Int32} {x5 : Int32} (hF : B_X8_reaches_127 N rec_45 rec_53 m x2 x3 x4 x5 = some m') : AW K 0 127 [(0, q_r 70), (2, q_i x2), (3, q_i x3), (4, q_i x4), (5, q_i x5)] [] m := by
  unfold B_X8_reaches_127 at hF
  refine aw_iconst hK (0) rfl dX8_reaches_127 ?_
  refine aw_sub [0, 1, 2, 3, 4] (lv' := [(0, q_r 70), (2, q_i x2), (3, q_i x3), (4, q_i x4), (5, q_i x5)]) rfl ?_
  exact bk_X8_reaches_128 hK hR hrec_45 hrec_53 hF
def B_X8_reaches_103 (N : Nat) (rec_45 : Mem → Int32 → Option Mem) (rec_53 : Mem → Int32 → Int32 → Option Mem) (m : Mem) (x2 : Int32) (x3 : Int32) (x4 : Int32) (x5 : Int32) : Option Mem :=
  gd (inb x5 (alen 84)) <|
  if (m 84 (ix x5)) = (0 : Int32) then (
    B_X8_reaches_127 N rec_45 rec_53 m x2 x3 x4 x5
  ) else (
    gd (inb x4 (alen 84)) <|
    if (m 84 (ix x4)) = (0 : Int32) then (
      B_X8_reaches_123 N rec_45 rec_53 m x2 x3 x4 x5
    ) else (
      B_X8_reaches_127 N rec_45 rec_53 m x2 x3 x4 x5
    )
  )
set_option maxRecDepth 100000 in
set_option maxHeartbeats 4000000 in
theorem bk_X8_reaches_103 {N : Nat} {K : KT} {m' : Mem} {rec_45 : Mem → Int32 → Option Mem} {rec_53 : Mem → Int32 → Int32 → Option Mem} (hK : KOK K cX8_reaches 7 RX8 wsX8_reaches 1 0 20) (hR : KRet K none none m') (hrec_45 : ∀ {m : Mem} {x2 : Int32}, rec_45 m x2 = some m' → AW K 0 45 [(0, q_r 70), (2, q_i x2)] [] m) (hrec_53 : ∀ {m : Mem} {x2 : Int32} {x3 : Int32}, rec_53 m x2 x3 = some m' → AW K 0 53 [(0, q_r 70), (2, q_i x2), (3, q_i x3)] [] m) {m : Mem} {x2 : Int32} {x3 : Int32} {x4 : Int32} {x5 : Int32} (hF : B_X8_reaches_103 N rec_45 rec_53 m x2 x3 x4 x5 = some m') : AW K 0 103 [(0, q_r 70), (2, q_i x2), (3, q_i x3), (4, q_i x4), (5, q_i x5)] [] m := by
  unfold B_X8_reaches_103 at hF
  refine aw_aload_n hK 0 rfl dX8_reaches_103 ?_
  refine gf_8_17 hK rfl (84) rfl (List.mem_of_getElem? (i := 2) rfl) dX8_reaches_104 ?_
  refine aw_iload hK 4 rfl dX8_reaches_107 ?_
  obtain ⟨g26, hF⟩ := gd_some hF
  refine aw_zald hK rfl g26 dX8_reaches_109 ?_
  refine aw_if_eq hK 127 rfl dX8_reaches_110 (fun hc => ?_) (fun hc => ?_)
  · have hF := if_t hF hc
    refine aw_sub [0, 1, 2, 3, 4] (lv' := [(0, q_r 70), (2, q_i x2), (3, q_i x3), (4, q_i x4), (5, q_i x5)]) rfl ?_
    exact bk_X8_reaches_127 hK hR hrec_45 hrec_53 hF
  · have hF := if_f hF hc
    refine aw_aload_n hK 0 rfl dX8_reaches_113 ?_
    refine gf_8_17 hK rfl (84) rfl (List.mem_of_getElem? (i := 2) rfl) dX8_reaches_114 ?_
    refine aw_iload hK 3 rfl dX8_reaches_117 ?_
    obtain ⟨g27, hF⟩ := gd_some hF
    refine aw_zald hK rfl g27 dX8_reaches_119 ?_
    refine aw_if_ne hK 127 rfl dX8_reaches_120 (fun hc => ?_) (fun hc => ?_)
    · have hF := if_f hF hc
      refine aw_sub [0, 1, 2, 3, 4] (lv' := [(0, q_r 70), (2, q_i x2), (3, q_i x3), (4, q_i x4), (5, q_i x5)]) rfl ?_
      exact bk_X8_reaches_127 hK hR hrec_45 hrec_53 hF
    · have hF := if_t hF hc
      refine aw_sub [0, 1, 2, 3, 4] (lv' := [(0, q_r 70), (2, q_i x2), (3, q_i x3), (4, q_i x4), (5, q_i x5)]) rfl ?_
      exact bk_X8_reaches_123 hK hR hrec_45 hrec_53 hF
def S_X8_reaches_53 (N : Nat) (rec_45 : Mem → Int32 → Option Mem) (rec_53 : Mem → Int32 → Int32 → Option Mem) (m : Mem) (x2 : Int32) (x3 : Int32) : Option Mem :=
  if (m 70 14) ≤ x3 then (
    rec_45 m x2
  ) else (
    gd (inb x3 (alen 80)) <|
    bnd (P_X8_sourceOf (m 80 (ix x3))) fun y10 =>
    gd (inb x3 (alen 80)) <|
    bnd (P_X8_targetOf (m 80 (ix x3))) fun y12 =>
    gd (inb y10 (alen 83)) <|
    if (m 83 (ix y10)) = (0 : Int32) then (
      B_X8_reaches_103 N rec_45 rec_53 m x2 x3 y10 y12
    ) else (
      gd (inb y12 (alen 83)) <|
      if (m 83 (ix y12)) = (0 : Int32) then (
        B_X8_reaches_123 N rec_45 rec_53 m x2 x3 y10 y12
      ) else (
        B_X8_reaches_103 N rec_45 rec_53 m x2 x3 y10 y12
      )
    )
  )
def L_X8_reaches_53 (N : Nat) (rec_45 : Mem → Int32 → Option Mem) : Nat → Mem → Int32 → Int32 → Option Mem
  | 0 => fun _ _ _ => none
  | f + 1 => S_X8_reaches_53 N rec_45 (L_X8_reaches_53 N rec_45 f)
set_option maxRecDepth 100000 in
set_option maxHeartbeats 4000000 in
theorem lp_X8_reaches_53 {N : Nat} {K : KT} {m' : Mem} {rec_45 : Mem → Int32 → Option Mem} (hK : KOK K cX8_reaches 7 RX8 wsX8_reaches 1 0 20) (hR : KRet K none none m') (hrec_45 : ∀ {m : Mem} {x2 : Int32}, rec_45 m x2 = some m' → AW K 0 45 [(0, q_r 70), (2, q_i x2)] [] m) : ∀ (f : Nat) {m : Mem} {x2 : Int32} {x3 : Int32}, L_X8_reaches_53 N rec_45 f m x2 x3 = some m' → AW K 0 53 [(0, q_r 70), (2, q_i x2), (3, q_i x3)] [] m := by
  intro f
  induction f with
  | zero => intro m x2 x3 hF; cases hF
  | succ f hrec_53 =>
    intro m x2 x3 hF
    have hF : S_X8_reaches_53 N rec_45 (L_X8_reaches_53 N rec_45 f) m x2 x3 = some m' := hF
    unfold S_X8_reaches_53 at hF
    refine aw_iload_n hK 2 rfl dX8_reaches_53 ?_
    refine aw_aload_n hK 0 rfl dX8_reaches_54 ?_
    refine gf_8_14 hK rfl (List.mem_of_getElem? (i := 4) rfl) dX8_reaches_55 ?_
    refine aw_icmp_ge hK 215 rfl dX8_reaches_58 (fun hc => ?_) (fun hc => ?_)
    · have hF := if_t hF hc
      refine aw_goto hK 45 rfl dX8_reaches_215 ?_
      refine aw_sub [0, 1] (lv' := [(0, q_r 70), (2, q_i x2)]) rfl ?_
      exact hrec_45 hF
    · have hF := if_f hF hc
      refine aw_aload_n hK 0 rfl dX8_reaches_61 ?_
      refine gf_8_12 hK rfl (80) rfl (List.mem_of_getElem? (i := 5) rfl) dX8_reaches_62 ?_
      refine aw_iload_n hK 2 rfl dX8_reaches_65 ?_
      obtain ⟨g9, hF⟩ := gd_some hF
      refine aw_iald hK rfl g9 dX8_reaches_66 ?_
      refine aw_cs hK (as := [q_i (m 80 (ix x3))]) (trp_X8_sourceOf (m 80 (ix x3)) _) gX8_reaches_X8_sourceOf rfl (na := 1) (by decide +kernel) rfl ⟨by decide, by decide⟩ (Nat.zero_le _) (Nat.le_of_ble_eq_true rfl) dX8_reaches_67 ?_
      obtain ⟨y10, hy10, hF⟩ := bnd_some hF
      refine aw_nm hy10 ?_
      refine aw_istore hK [(4, q_i y10), (0, q_r 70), (2, q_i x2), (3, q_i x3)] (by decide) rfl dX8_reaches_70 ?_
      refine aw_aload_n hK 1 rfl dX8_reaches_72 ?_
      refine gf_8_12 hK rfl (80) rfl (List.mem_of_getElem? (i := 5) rfl) dX8_reaches_73 ?_
      refine aw_iload_n hK 3 rfl dX8_reaches_76 ?_
      obtain ⟨g11, hF⟩ := gd_some hF
      refine aw_iald hK rfl g11 dX8_reaches_77 ?_
      refine aw_cs hK (as := [q_i (m 80 (ix x3))]) (trp_X8_targetOf (m 80 (ix x3)) _) gX8_reaches_X8_targetOf rfl (na := 1) (by decide +kernel) rfl ⟨by decide, by decide⟩ (Nat.zero_le _) (Nat.le_of_ble_eq_true rfl) dX8_reaches_78 ?_
      obtain ⟨y12, hy12, hF⟩ := bnd_some hF
      refine aw_nm hy12 ?_
      refine aw_istore hK [(5, q_i y12), (4, q_i y10), (0, q_r 70), (2, q_i x2), (3, q_i x3)] (by decide) rfl dX8_reaches_81 ?_
      refine aw_aload_n hK 2 rfl dX8_reaches_83 ?_
      refine gf_8_16 hK rfl (83) rfl (List.mem_of_getElem? (i := 1) rfl) dX8_reaches_84 ?_
      refine aw_iload hK 1 rfl dX8_reaches_87 ?_
      obtain ⟨g13, hF⟩ := gd_some hF
      refine aw_zald hK rfl g13 dX8_reaches_89 ?_
      refine aw_if_eq hK 103 rfl dX8_reaches_90 (fun hc => ?_) (fun hc => ?_)
      · have hF := if_t hF hc
        refine aw_sub [2, 3, 4, 1, 0] (lv' := [(0, q_r 70), (2, q_i x2), (3, q_i x3), (4, q_i y10), (5, q_i y12)]) rfl ?_
        exact bk_X8_reaches_103 hK hR hrec_45 hrec_53 hF
      · have hF := if_f hF hc
        refine aw_aload_n hK 2 rfl dX8_reaches_93 ?_
        refine gf_8_16 hK rfl (83) rfl (List.mem_of_getElem? (i := 1) rfl) dX8_reaches_94 ?_
        refine aw_iload hK 0 rfl dX8_reaches_97 ?_
        obtain ⟨g14, hF⟩ := gd_some hF
        refine aw_zald hK rfl g14 dX8_reaches_99 ?_
        refine aw_if_eq hK 123 rfl dX8_reaches_100 (fun hc => ?_) (fun hc => ?_)
        · have hF := if_t hF hc
          refine aw_sub [2, 3, 4, 1, 0] (lv' := [(0, q_r 70), (2, q_i x2), (3, q_i x3), (4, q_i y10), (5, q_i y12)]) rfl ?_
          exact bk_X8_reaches_123 hK hR hrec_45 hrec_53 hF
        · have hF := if_f hF hc
          refine aw_sub [2, 3, 4, 1, 0] (lv' := [(0, q_r 70), (2, q_i x2), (3, q_i x3), (4, q_i y10), (5, q_i y12)]) rfl ?_
          exact bk_X8_reaches_103 hK hR hrec_45 hrec_53 hF
def S_X8_reaches_45 (N : Nat) (rec_45 : Mem → Int32 → Option Mem) (m : Mem) (x2 : Int32) : Option Mem :=
  if x2 = (0 : Int32) then (
    some m
  ) else (
    L_X8_reaches_53 N rec_45 N m (0 : Int32) (0 : Int32)
  )
def L_X8_reaches_45 (N : Nat) : Nat → Mem → Int32 → Option Mem
  | 0 => fun _ _ => none
  | f + 1 => S_X8_reaches_45 N (L_X8_reaches_45 N f)
set_option maxRecDepth 100000 in
set_option maxHeartbeats 4000000 in
theorem lp_X8_reaches_45 {N : Nat} {K : KT} {m' : Mem} (hK : KOK K cX8_reaches 7 RX8 wsX8_reaches 1 0 20) (hR : KRet K none none m') : ∀ (f : Nat) {m : Mem} {x2 : Int32}, L_X8_reaches_45 N f m x2 = some m' → AW K 0 45 [(0, q_r 70), (2, q_i x2)] [] m := by
  intro f
  induction f with
  | zero => intro m x2 hF; cases hF
  | succ f hrec_45 =>
    intro m x2 hF
    have hF : S_X8_reaches_45 N (L_X8_reaches_45 N f) m x2 = some m' := hF
    unfold S_X8_reaches_45 at hF
    refine aw_iload_n hK 1 rfl dX8_reaches_45 ?_
    refine aw_if_eq hK 218 rfl dX8_reaches_46 (fun hc => ?_) (fun hc => ?_)
    · have hF := if_t hF hc
      obtain rfl := Option.some.inj hF
      exact aw_vret hK hR dX8_reaches_218
    · have hF := if_f hF hc
      refine aw_iconst hK (0) rfl dX8_reaches_49 ?_
      refine aw_istore_n hK [(2, q_i (0 : Int32)), (0, q_r 70)] (by decide) rfl dX8_reaches_50 ?_
      refine aw_iconst hK (0) rfl dX8_reaches_51 ?_
      refine aw_istore_n hK [(3, q_i (0 : Int32)), (2, q_i (0 : Int32)), (0, q_r 70)] (by decide) rfl dX8_reaches_52 ?_
      refine aw_sub [2, 1, 0] (lv' := [(0, q_r 70), (2, q_i (0 : Int32)), (3, q_i (0 : Int32))]) rfl ?_
      exact lp_X8_reaches_53 hK hR hrec_45 _ hF
def B_X8_reaches_24 (N : Nat) (rec_2 : Mem → Int32 → Int32 → Option Mem) (m : Mem) (x1 : Int32) (x2 : Int32) (s0 : Int32) (s1 : Int32) : Option Mem :=
  gd (inb s1 (alen 83)) <|
  gd (isb s0) <|
  bnd (mup m 83 (ix s1) s0) fun m3 =>
  gd (inb x2 (alen 82)) <|
  gd (inb x2 (alen 84)) <|
  gd (isb (m3 82 (ix x2))) <|
  bnd (mup m3 84 (ix x2) (m3 82 (ix x2))) fun m7 =>
  bnd (x2 + (1 : Int32)) fun y8 =>
  rec_2 m7 x1 y8
set_option maxRecDepth 100000 in
set_option maxHeartbeats 4000000 in
theorem bk_X8_reaches_24 {N : Nat} {K : KT} {m' : Mem} {rec_2 : Mem → Int32 → Int32 → Option Mem} (hK : KOK K cX8_reaches 7 RX8 wsX8_reaches 1 0 20) (hR : KRet K none none m') (hrec_2 : ∀ {m : Mem} {x1 : Int32} {x2 : Int32}, rec_2 m x1 x2 = some m' → AW K 0 2 [(0, q_r 70), (1, q_i x1), (2, q_i x2)] [] m) {m : Mem} {x1 : Int32} {x2 : Int32} {s0 : Int32} {s1 : Int32} (hF : B_X8_reaches_24 N rec_2 m x1 x2 s0 s1 = some m') : AW K 0 24 [(0, q_r 70), (1, q_i x1), (2, q_i x2)] [q_i s0, q_i s1, q_r 83] m := by
  unfold B_X8_reaches_24 at hF
  obtain ⟨g1, hF⟩ := gd_some hF
  obtain ⟨g2, hF⟩ := gd_some hF
  refine aw_zast hK rfl g1 g2 dX8_reaches_24 ?_
  obtain ⟨m3, hm3, hF⟩ := bnd_some hF
  refine aw_mm hm3 ?_
  refine aw_aload_n hK 0 rfl dX8_reaches_25 ?_
  refine gf_8_17 hK rfl (84) rfl (List.mem_of_getElem? (i := 2) rfl) dX8_reaches_26 ?_
  refine aw_iload_n hK 2 rfl dX8_reaches_29 ?_
  refine aw_aload_n hK 0 rfl dX8_reaches_30 ?_
  refine gf_8_15 hK rfl (82) rfl (List.mem_of_getElem? (i := 3) rfl) dX8_reaches_31 ?_
  refine aw_iload_n hK 2 rfl dX8_reaches_34 ?_
  obtain ⟨g4, hF⟩ := gd_some hF
  refine aw_zald hK rfl g4 dX8_reaches_35 ?_
  obtain ⟨g5, hF⟩ := gd_some hF
  obtain ⟨g6, hF⟩ := gd_some hF
  refine aw_zast hK rfl g5 g6 dX8_reaches_36 ?_
  obtain ⟨m7, hm7, hF⟩ := bnd_some hF
  refine aw_mm hm7 ?_
  obtain ⟨y8, hy8, hF⟩ := bnd_some hF
  refine aw_iinc hK (cz := 1) 2 [(2, q_i y8), (0, q_r 70), (1, q_i x1)] (by decide) rfl rfl hy8 rfl dX8_reaches_37 ?_
  refine aw_goto hK 2 rfl dX8_reaches_40 ?_
  refine aw_sub [1, 2, 0] (lv' := [(0, q_r 70), (1, q_i x1), (2, q_i y8)]) rfl ?_
  exact hrec_2 hF
def S_X8_reaches_2 (N : Nat) (rec_2 : Mem → Int32 → Int32 → Option Mem) (m : Mem) (x1 : Int32) (x2 : Int32) : Option Mem :=
  if (1024 : Int32) ≤ x2 then (
    L_X8_reaches_45 N N m (1 : Int32)
  ) else (
    if x2 = x1 then (
      B_X8_reaches_24 N rec_2 m x1 x2 (1 : Int32) x2
    ) else (
      B_X8_reaches_24 N rec_2 m x1 x2 (0 : Int32) x2
    )
  )
def L_X8_reaches_2 (N : Nat) : Nat → Mem → Int32 → Int32 → Option Mem
  | 0 => fun _ _ _ => none
  | f + 1 => S_X8_reaches_2 N (L_X8_reaches_2 N f)
set_option maxRecDepth 100000 in
set_option maxHeartbeats 4000000 in
theorem lp_X8_reaches_2 {N : Nat} {K : KT} {m' : Mem} (hK : KOK K cX8_reaches 7 RX8 wsX8_reaches 1 0 20) (hR : KRet K none none m') : ∀ (f : Nat) {m : Mem} {x1 : Int32} {x2 : Int32}, L_X8_reaches_2 N f m x1 x2 = some m' → AW K 0 2 [(0, q_r 70), (1, q_i x1), (2, q_i x2)] [] m := by
  intro f
  induction f with
  | zero => intro m x1 x2 hF; cases hF
  | succ f hrec_2 =>
    intro m x1 x2 hF
    have hF : S_X8_reaches_2 N (L_X8_reaches_2 N f) m x1 x2 = some m' := hF
    unfold S_X8_reaches_2 at hF
    refine aw_iload_n hK 2 rfl dX8_reaches_2 ?_
    refine aw_sipush hK (1024) rfl dX8_reaches_3 ?_
    refine aw_icmp_ge hK 43 rfl dX8_reaches_6 (fun hc => ?_) (fun hc => ?_)
    · have hF := if_t hF hc
      refine aw_iconst hK (1) rfl dX8_reaches_43 ?_
      refine aw_istore_n hK [(2, q_i (1 : Int32)), (0, q_r 70), (1, q_i x1)] (by decide) rfl dX8_reaches_44 ?_
      refine aw_sub [1, 0] (lv' := [(0, q_r 70), (2, q_i (1 : Int32))]) rfl ?_
      exact lp_X8_reaches_45 hK hR _ hF
    · have hF := if_f hF hc
      refine aw_aload_n hK 0 rfl dX8_reaches_9 ?_
      refine gf_8_16 hK rfl (83) rfl (List.mem_of_getElem? (i := 1) rfl) dX8_reaches_10 ?_
      refine aw_iload_n hK 2 rfl dX8_reaches_13 ?_
      refine aw_iload_n hK 2 rfl dX8_reaches_14 ?_
      refine aw_iload_n hK 1 rfl dX8_reaches_15 ?_
      refine aw_icmp_ne hK 23 rfl dX8_reaches_16 (fun hc => ?_) (fun hc => ?_)
      · have hF := if_f hF hc
        refine aw_iconst hK (0) rfl dX8_reaches_23 ?_
        refine aw_sub [0, 1, 2] (lv' := [(0, q_r 70), (1, q_i x1), (2, q_i x2)]) rfl ?_
        exact bk_X8_reaches_24 hK hR hrec_2 hF
      · have hF := if_t hF hc
        refine aw_iconst hK (1) rfl dX8_reaches_19 ?_
        refine aw_goto hK 24 rfl dX8_reaches_20 ?_
        refine aw_sub [0, 1, 2] (lv' := [(0, q_r 70), (1, q_i x1), (2, q_i x2)]) rfl ?_
        exact bk_X8_reaches_24 hK hR hrec_2 hF
def F_X8_reaches (N : Nat) (m : Mem) (x1 : Int32) : Option Mem :=
  L_X8_reaches_2 N N m x1 (0 : Int32)
set_option maxRecDepth 100000 in
set_option maxHeartbeats 4000000 in
theorem tr_X8_reaches {N : Nat} {m m' : Mem} {x1 : Int32} (hF : F_X8_reaches N m x1 = some m') : Tr yX8_reaches wsX8_reaches 1 20 [q_r 70, q_i x1] m none m' := by
  refine tr_of (bytes := cX8_reaches) (maxL := 7) (ret := none) (by decide) rfl (Nat.le_of_ble_eq_true rfl) (fun K hK hR => ?_)
  have hK : KOK K cX8_reaches 7 RX8 wsX8_reaches 1 0 20 := hK
  show AW K 0 0 [(0, q_r 70), (1, q_i x1)] [] m
  unfold F_X8_reaches at hF
  refine aw_iconst hK (0) rfl dX8_reaches_0 ?_
  refine aw_istore_n hK [(2, q_i (0 : Int32)), (0, q_r 70), (1, q_i x1)] (by decide) rfl dX8_reaches_1 ?_
  refine aw_sub [1, 2, 0] (lv' := [(0, q_r 70), (1, q_i x1), (2, q_i (0 : Int32))]) rfl ?_
  exact lp_X8_reaches_2 hK hR _ hF
def B_X8_nextArc_142 (N : Nat) (rec_5 : Mem → Int32 → Int32 → Int32 → Int32 → Option (Int32 × Mem)) (m : Mem) (x1 : Int32) (x2 : Int32) (x4 : Int32) (s0 : Int32) : Option (Int32 × Mem) :=
  bnd (x4 + (1 : Int32)) fun y13 =>
  rec_5 m x1 x2 s0 y13
set_option maxRecDepth 100000 in
set_option maxHeartbeats 4000000 in
theorem bk_X8_nextArc_142 {N : Nat} {K : KT} {m' : Mem} {rec_5 : Mem → Int32 → Int32 → Int32 → Int32 → Option (Int32 × Mem)} {r : Int32} (hK : KOK K cX8_nextArc 7 RX8 wsX8_nextArc 1 0 20) (hR : KRet K (some .int) (some r) m') (hrec_5 : ∀ {m : Mem} {x1 : Int32} {x2 : Int32} {x3 : Int32} {x4 : Int32}, rec_5 m x1 x2 x3 x4 = some (r, m') → AW K 0 5 [(0, q_r 70), (1, q_i x1), (2, q_i x2), (3, q_i x3), (4, q_i x4)] [] m) {m : Mem} {x1 : Int32} {x2 : Int32} {x4 : Int32} {s0 : Int32} (hF : B_X8_nextArc_142 N rec_5 m x1 x2 x4 s0 = some (r, m')) : AW K 0 142 [(0, q_r 70), (1, q_i x1), (2, q_i x2), (4, q_i x4)] [q_i s0] m := by
  unfold B_X8_nextArc_142 at hF
  refine aw_istore_n hK [(3, q_i s0), (0, q_r 70), (1, q_i x1), (2, q_i x2), (4, q_i x4)] (by decide) rfl dX8_nextArc_142 ?_
  obtain ⟨y13, hy13, hF⟩ := bnd_some hF
  refine aw_iinc hK (cz := 1) 4 [(4, q_i y13), (3, q_i s0), (0, q_r 70), (1, q_i x1), (2, q_i x2)] (by decide) rfl rfl hy13 rfl dX8_nextArc_143 ?_
  refine aw_goto hK 5 rfl dX8_nextArc_146 ?_
  refine aw_sub [2, 3, 4, 1, 0] (lv' := [(0, q_r 70), (1, q_i x1), (2, q_i x2), (3, q_i s0), (4, q_i y13)]) rfl ?_
  exact hrec_5 hF
def B_X8_nextArc_141 (N : Nat) (rec_5 : Mem → Int32 → Int32 → Int32 → Int32 → Option (Int32 × Mem)) (m : Mem) (x1 : Int32) (x2 : Int32) (x3 : Int32) (x4 : Int32) : Option (Int32 × Mem) :=
  B_X8_nextArc_142 N rec_5 m x1 x2 x4 x3
set_option maxRecDepth 100000 in
set_option maxHeartbeats 4000000 in
theorem bk_X8_nextArc_141 {N : Nat} {K : KT} {m' : Mem} {rec_5 : Mem → Int32 → Int32 → Int32 → Int32 → Option (Int32 × Mem)} {r : Int32} (hK : KOK K cX8_nextArc 7 RX8 wsX8_nextArc 1 0 20) (hR : KRet K (some .int) (some r) m') (hrec_5 : ∀ {m : Mem} {x1 : Int32} {x2 : Int32} {x3 : Int32} {x4 : Int32}, rec_5 m x1 x2 x3 x4 = some (r, m') → AW K 0 5 [(0, q_r 70), (1, q_i x1), (2, q_i x2), (3, q_i x3), (4, q_i x4)] [] m) {m : Mem} {x1 : Int32} {x2 : Int32} {x3 : Int32} {x4 : Int32} (hF : B_X8_nextArc_141 N rec_5 m x1 x2 x3 x4 = some (r, m')) : AW K 0 141 [(0, q_r 70), (1, q_i x1), (2, q_i x2), (3, q_i x3), (4, q_i x4)] [] m := by
  unfold B_X8_nextArc_141 at hF
  refine aw_iload_n hK 3 rfl dX8_nextArc_141 ?_
  refine aw_sub [0, 1, 2, 4] (lv' := [(0, q_r 70), (1, q_i x1), (2, q_i x2), (4, q_i x4)]) rfl ?_
  exact bk_X8_nextArc_142 hK hR hrec_5 hF
def B_X8_nextArc_136 (N : Nat) (rec_5 : Mem → Int32 → Int32 → Int32 → Int32 → Option (Int32 × Mem)) (m : Mem) (x1 : Int32) (x2 : Int32) (x4 : Int32) : Option (Int32 × Mem) :=
  B_X8_nextArc_142 N rec_5 m x1 x2 x4 x4
set_option maxRecDepth 100000 in
set_option maxHeartbeats 4000000 in
theorem bk_X8_nextArc_136 {N : Nat} {K : KT} {m' : Mem} {rec_5 : Mem → Int32 → Int32 → Int32 → Int32 → Option (Int32 × Mem)} {r : Int32} (hK : KOK K cX8_nextArc 7 RX8 wsX8_nextArc 1 0 20) (hR : KRet K (some .int) (some r) m') (hrec_5 : ∀ {m : Mem} {x1 : Int32} {x2 : Int32} {x3 : Int32} {x4 : Int32}, rec_5 m x1 x2 x3 x4 = some (r, m') → AW K 0 5 [(0, q_r 70), (1, q_i x1), (2, q_i x2), (3, q_i x3), (4, q_i x4)] [] m) {m : Mem} {x1 : Int32} {x2 : Int32} {x4 : Int32} (hF : B_X8_nextArc_136 N rec_5 m x1 x2 x4 = some (r, m')) : AW K 0 136 [(0, q_r 70), (1, q_i x1), (2, q_i x2), (4, q_i x4)] [] m := by
  unfold B_X8_nextArc_136 at hF
  refine aw_iload hK 3 rfl dX8_nextArc_136 ?_
  refine aw_goto hK 142 rfl dX8_nextArc_138 ?_
  refine aw_sub [0, 1, 2, 3] (lv' := [(0, q_r 70), (1, q_i x1), (2, q_i x2), (4, q_i x4)]) rfl ?_
  exact bk_X8_nextArc_142 hK hR hrec_5 hF
def B_X8_nextArc_76 (N : Nat) (rec_5 : Mem → Int32 → Int32 → Int32 → Int32 → Option (Int32 × Mem)) (m : Mem) (x1 : Int32) (x2 : Int32) (x3 : Int32) (x4 : Int32) (s0 : Int32) : Option (Int32 × Mem) :=
  if s0 = (0 : Int32) then (
    B_X8_nextArc_141 N rec_5 m x1 x2 x3 x4
  ) else (
    if x3 = (-1 : Int32) then (
      B_X8_nextArc_136 N rec_5 m x1 x2 x4
    ) else (
      gd (inb x4 (alen 80)) <|
      gd (inb x3 (alen 80)) <|
      if (m 80 (ix x4)) < (m 80 (ix x3)) then (
        B_X8_nextArc_136 N rec_5 m x1 x2 x4
      ) else (
        gd (inb x4 (alen 80)) <|
        gd (inb x3 (alen 80)) <|
        if (m 80 (ix x4)) = (m 80 (ix x3)) then (
          gd (inb x4 (alen 81)) <|
          gd (inb x3 (alen 81)) <|
          if (m 81 (ix x3)) ≤ (m 81 (ix x4)) then (
            B_X8_nextArc_141 N rec_5 m x1 x2 x3 x4
          ) else (
            B_X8_nextArc_136 N rec_5 m x1 x2 x4
          )
        ) else (
          B_X8_nextArc_141 N rec_5 m x1 x2 x3 x4
        )
      )
    )
  )
set_option maxRecDepth 100000 in
set_option maxHeartbeats 4000000 in
theorem bk_X8_nextArc_76 {N : Nat} {K : KT} {m' : Mem} {rec_5 : Mem → Int32 → Int32 → Int32 → Int32 → Option (Int32 × Mem)} {r : Int32} (hK : KOK K cX8_nextArc 7 RX8 wsX8_nextArc 1 0 20) (hR : KRet K (some .int) (some r) m') (hrec_5 : ∀ {m : Mem} {x1 : Int32} {x2 : Int32} {x3 : Int32} {x4 : Int32}, rec_5 m x1 x2 x3 x4 = some (r, m') → AW K 0 5 [(0, q_r 70), (1, q_i x1), (2, q_i x2), (3, q_i x3), (4, q_i x4)] [] m) {m : Mem} {x1 : Int32} {x2 : Int32} {x3 : Int32} {x4 : Int32} {s0 : Int32} (hF : B_X8_nextArc_76 N rec_5 m x1 x2 x3 x4 s0 = some (r, m')) : AW K 0 76 [(0, q_r 70), (1, q_i x1), (2, q_i x2), (3, q_i x3), (4, q_i x4)] [q_i s0] m := by
  unfold B_X8_nextArc_76 at hF
  refine aw_istore hK [(6, q_i s0), (0, q_r 70), (1, q_i x1), (2, q_i x2), (3, q_i x3), (4, q_i x4)] (by decide) rfl dX8_nextArc_76 ?_
  refine aw_iload hK 0 rfl dX8_nextArc_78 ?_
  refine aw_if_eq hK 141 rfl dX8_nextArc_80 (fun hc => ?_) (fun hc => ?_)
  · have hF := if_t hF hc
    refine aw_sub [1, 2, 3, 4, 5] (lv' := [(0, q_r 70), (1, q_i x1), (2, q_i x2), (3, q_i x3), (4, q_i x4)]) rfl ?_
    exact bk_X8_nextArc_141 hK hR hrec_5 hF
  · have hF := if_f hF hc
    refine aw_iload_n hK 4 rfl dX8_nextArc_83 ?_
    refine aw_iconst hK (-1) rfl dX8_nextArc_84 ?_
    refine aw_icmp_eq hK 136 rfl dX8_nextArc_85 (fun hc => ?_) (fun hc => ?_)
    · have hF := if_t hF hc
      refine aw_sub [1, 2, 3, 5] (lv' := [(0, q_r 70), (1, q_i x1), (2, q_i x2), (4, q_i x4)]) rfl ?_
      exact bk_X8_nextArc_136 hK hR hrec_5 hF
    · have hF := if_f hF hc
      refine aw_aload_n hK 1 rfl dX8_nextArc_88 ?_
      refine gf_8_12 hK rfl (80) rfl (List.mem_of_getElem? (i := 2) rfl) dX8_nextArc_89 ?_
      refine aw_iload hK 5 rfl dX8_nextArc_92 ?_
      obtain ⟨g7, hF⟩ := gd_some hF
      refine aw_iald hK rfl g7 dX8_nextArc_94 ?_
      refine aw_aload_n hK 1 rfl dX8_nextArc_95 ?_
      refine gf_8_12 hK rfl (80) rfl (List.mem_of_getElem? (i := 2) rfl) dX8_nextArc_96 ?_
      refine aw_iload_n hK 4 rfl dX8_nextArc_99 ?_
      obtain ⟨g8, hF⟩ := gd_some hF
      refine aw_iald hK rfl g8 dX8_nextArc_100 ?_
      refine aw_icmp_lt hK 136 rfl dX8_nextArc_101 (fun hc => ?_) (fun hc => ?_)
      · have hF := if_t hF hc
        refine aw_sub [1, 2, 3, 5] (lv' := [(0, q_r 70), (1, q_i x1), (2, q_i x2), (4, q_i x4)]) rfl ?_
        exact bk_X8_nextArc_136 hK hR hrec_5 hF
      · have hF := if_f hF hc
        refine aw_aload_n hK 1 rfl dX8_nextArc_104 ?_
        refine gf_8_12 hK rfl (80) rfl (List.mem_of_getElem? (i := 2) rfl) dX8_nextArc_105 ?_
        refine aw_iload hK 5 rfl dX8_nextArc_108 ?_
        obtain ⟨g9, hF⟩ := gd_some hF
        refine aw_iald hK rfl g9 dX8_nextArc_110 ?_
        refine aw_aload_n hK 1 rfl dX8_nextArc_111 ?_
        refine gf_8_12 hK rfl (80) rfl (List.mem_of_getElem? (i := 2) rfl) dX8_nextArc_112 ?_
        refine aw_iload_n hK 4 rfl dX8_nextArc_115 ?_
        obtain ⟨g10, hF⟩ := gd_some hF
        refine aw_iald hK rfl g10 dX8_nextArc_116 ?_
        refine aw_icmp_ne hK 141 rfl dX8_nextArc_117 (fun hc => ?_) (fun hc => ?_)
        · have hF := if_f hF hc
          refine aw_sub [1, 2, 3, 4, 5] (lv' := [(0, q_r 70), (1, q_i x1), (2, q_i x2), (3, q_i x3), (4, q_i x4)]) rfl ?_
          exact bk_X8_nextArc_141 hK hR hrec_5 hF
        · have hF := if_t hF hc
          refine aw_aload_n hK 1 rfl dX8_nextArc_120 ?_
          refine gf_8_13 hK rfl (81) rfl (List.mem_of_getElem? (i := 5) rfl) dX8_nextArc_121 ?_
          refine aw_iload hK 5 rfl dX8_nextArc_124 ?_
          obtain ⟨g11, hF⟩ := gd_some hF
          refine aw_iald hK rfl g11 dX8_nextArc_126 ?_
          refine aw_aload_n hK 1 rfl dX8_nextArc_127 ?_
          refine gf_8_13 hK rfl (81) rfl (List.mem_of_getElem? (i := 5) rfl) dX8_nextArc_128 ?_
          refine aw_iload_n hK 4 rfl dX8_nextArc_131 ?_
          obtain ⟨g12, hF⟩ := gd_some hF
          refine aw_iald hK rfl g12 dX8_nextArc_132 ?_
          refine aw_icmp_ge hK 141 rfl dX8_nextArc_133 (fun hc => ?_) (fun hc => ?_)
          · have hF := if_t hF hc
            refine aw_sub [1, 2, 3, 4, 5] (lv' := [(0, q_r 70), (1, q_i x1), (2, q_i x2), (3, q_i x3), (4, q_i x4)]) rfl ?_
            exact bk_X8_nextArc_141 hK hR hrec_5 hF
          · have hF := if_f hF hc
            refine aw_sub [1, 2, 3, 5] (lv' := [(0, q_r 70), (1, q_i x1), (2, q_i x2), (4, q_i x4)]) rfl ?_
            exact bk_X8_nextArc_136 hK hR hrec_5 hF
def B_X8_nextArc_75 (N : Nat) (rec_5 : Mem → Int32 → Int32 → Int32 → Int32 → Option (Int32 × Mem)) (m : Mem) (x1 : Int32) (x2 : Int32) (x3 : Int32) (x4 : Int32) : Option (Int32 × Mem) :=
  B_X8_nextArc_76 N rec_5 m x1 x2 x3 x4 (0 : Int32)
set_option maxRecDepth 100000 in
set_option maxHeartbeats 4000000 in
theorem bk_X8_nextArc_75 {N : Nat} {K : KT} {m' : Mem} {rec_5 : Mem → Int32 → Int32 → Int32 → Int32 → Option (Int32 × Mem)} {r : Int32} (hK : KOK K cX8_nextArc 7 RX8 wsX8_nextArc 1 0 20) (hR : KRet K (some .int) (some r) m') (hrec_5 : ∀ {m : Mem} {x1 : Int32} {x2 : Int32} {x3 : Int32} {x4 : Int32}, rec_5 m x1 x2 x3 x4 = some (r, m') → AW K 0 5 [(0, q_r 70), (1, q_i x1), (2, q_i x2), (3, q_i x3), (4, q_i x4)] [] m) {m : Mem} {x1 : Int32} {x2 : Int32} {x3 : Int32} {x4 : Int32} (hF : B_X8_nextArc_75 N rec_5 m x1 x2 x3 x4 = some (r, m')) : AW K 0 75 [(0, q_r 70), (1, q_i x1), (2, q_i x2), (3, q_i x3), (4, q_i x4)] [] m := by
  unfold B_X8_nextArc_75 at hF
  refine aw_iconst hK (0) rfl dX8_nextArc_75 ?_
  refine aw_sub [0, 1, 2, 3, 4] (lv' := [(0, q_r 70), (1, q_i x1), (2, q_i x2), (3, q_i x3), (4, q_i x4)]) rfl ?_
  exact bk_X8_nextArc_76 hK hR hrec_5 hF
def S_X8_nextArc_5 (N : Nat) (rec_5 : Mem → Int32 → Int32 → Int32 → Int32 → Option (Int32 × Mem)) (m : Mem) (x1 : Int32) (x2 : Int32) (x3 : Int32) (x4 : Int32) : Option (Int32 × Mem) :=
  if (m 70 14) ≤ x4 then (
    some (x3, m)
  ) else (
    gd (inb x4 (alen 80)) <|
    bnd (P_X8_targetOf (m 80 (ix x4))) fun y2 =>
    gd (inb x4 (alen 80)) <|
    if (P_X8_sourceOf (m 80 (ix x4))) = x1 then (
      gd (inb x4 (alen 80)) <|
      if (m 80 (ix x4)) ≤ x2 then (
        B_X8_nextArc_75 N rec_5 m x1 x2 x3 x4
      ) else (
        gd (inb y2 (alen 83)) <|
        if (m 83 (ix y2)) = (0 : Int32) then (
          B_X8_nextArc_75 N rec_5 m x1 x2 x3 x4
        ) else (
          gd (inb y2 (alen 84)) <|
          if (m 84 (ix y2)) = (0 : Int32) then (
            B_X8_nextArc_75 N rec_5 m x1 x2 x3 x4
          ) else (
            B_X8_nextArc_76 N rec_5 m x1 x2 x3 x4 (1 : Int32)
          )
        )
      )
    ) else (
      B_X8_nextArc_75 N rec_5 m x1 x2 x3 x4
    )
  )
def L_X8_nextArc_5 (N : Nat) : Nat → Mem → Int32 → Int32 → Int32 → Int32 → Option (Int32 × Mem)
  | 0 => fun _ _ _ _ _ => none
  | f + 1 => S_X8_nextArc_5 N (L_X8_nextArc_5 N f)
set_option maxRecDepth 100000 in
set_option maxHeartbeats 4000000 in
theorem lp_X8_nextArc_5 {N : Nat} {K : KT} {m' : Mem} {r : Int32} (hK : KOK K cX8_nextArc 7 RX8 wsX8_nextArc 1 0 20) (hR : KRet K (some .int) (some r) m') : ∀ (f : Nat) {m : Mem} {x1 : Int32} {x2 : Int32} {x3 : Int32} {x4 : Int32}, L_X8_nextArc_5 N f m x1 x2 x3 x4 = some (r, m') → AW K 0 5 [(0, q_r 70), (1, q_i x1), (2, q_i x2), (3, q_i x3), (4, q_i x4)] [] m := by
  intro f
  induction f with
  | zero => intro m x1 x2 x3 x4 hF; cases hF
  | succ f hrec_5 =>
    intro m x1 x2 x3 x4 hF
    have hF : S_X8_nextArc_5 N (L_X8_nextArc_5 N f) m x1 x2 x3 x4 = some (r, m') := hF
    unfold S_X8_nextArc_5 at hF
    refine aw_iload hK 4 rfl dX8_nextArc_5 ?_
    refine aw_aload_n hK 0 rfl dX8_nextArc_7 ?_
    refine gf_8_14 hK rfl (List.mem_of_getElem? (i := 1) rfl) dX8_nextArc_8 ?_
    refine aw_icmp_ge hK 149 rfl dX8_nextArc_11 (fun hc => ?_) (fun hc => ?_)
    · have hF := if_t hF hc
      refine aw_iload_n hK 3 rfl dX8_nextArc_149 ?_
      obtain ⟨rfl, rfl⟩ := so_inj hF
      exact aw_iret hK hR rfl dX8_nextArc_150
    · have hF := if_f hF hc
      refine aw_aload_n hK 0 rfl dX8_nextArc_14 ?_
      refine gf_8_12 hK rfl (80) rfl (List.mem_of_getElem? (i := 2) rfl) dX8_nextArc_15 ?_
      refine aw_iload hK 4 rfl dX8_nextArc_18 ?_
      obtain ⟨g1, hF⟩ := gd_some hF
      refine aw_iald hK rfl g1 dX8_nextArc_20 ?_
      refine aw_cs hK (as := [q_i (m 80 (ix x4))]) (trp_X8_targetOf (m 80 (ix x4)) _) gX8_nextArc_X8_targetOf rfl (na := 1) (by decide +kernel) rfl ⟨by decide, by decide⟩ (Nat.zero_le _) (Nat.le_of_ble_eq_true rfl) dX8_nextArc_21 ?_
      obtain ⟨y2, hy2, hF⟩ := bnd_some hF
      refine aw_nm hy2 ?_
      refine aw_istore hK [(5, q_i y2), (0, q_r 70), (1, q_i x1), (2, q_i x2), (3, q_i x3), (4, q_i x4)] (by decide) rfl dX8_nextArc_24 ?_
      refine aw_aload_n hK 1 rfl dX8_nextArc_26 ?_
      refine gf_8_12 hK rfl (80) rfl (List.mem_of_getElem? (i := 2) rfl) dX8_nextArc_27 ?_
      refine aw_iload hK 5 rfl dX8_nextArc_30 ?_
      obtain ⟨g3, hF⟩ := gd_some hF
      refine aw_iald hK rfl g3 dX8_nextArc_32 ?_
      refine aw_cs hK (as := [q_i (m 80 (ix x4))]) (trp_X8_sourceOf (m 80 (ix x4)) _) gX8_nextArc_X8_sourceOf rfl (na := 1) (by decide +kernel) rfl ⟨by decide, by decide⟩ (Nat.zero_le _) (Nat.le_of_ble_eq_true rfl) dX8_nextArc_33 ?_
      refine aw_iload_n hK 2 rfl dX8_nextArc_36 ?_
      refine aw_icmp_ne hK 75 rfl dX8_nextArc_37 (fun hc => ?_) (fun hc => ?_)
      · have hF := if_f hF hc
        refine aw_sub [1, 2, 3, 4, 5] (lv' := [(0, q_r 70), (1, q_i x1), (2, q_i x2), (3, q_i x3), (4, q_i x4)]) rfl ?_
        exact bk_X8_nextArc_75 hK hR hrec_5 hF
      · have hF := if_t hF hc
        refine aw_aload_n hK 1 rfl dX8_nextArc_40 ?_
        refine gf_8_12 hK rfl (80) rfl (List.mem_of_getElem? (i := 2) rfl) dX8_nextArc_41 ?_
        refine aw_iload hK 5 rfl dX8_nextArc_44 ?_
        obtain ⟨g4, hF⟩ := gd_some hF
        refine aw_iald hK rfl g4 dX8_nextArc_46 ?_
        refine aw_iload_n hK 3 rfl dX8_nextArc_47 ?_
        refine aw_icmp_le hK 75 rfl dX8_nextArc_48 (fun hc => ?_) (fun hc => ?_)
        · have hF := if_t hF hc
          refine aw_sub [1, 2, 3, 4, 5] (lv' := [(0, q_r 70), (1, q_i x1), (2, q_i x2), (3, q_i x3), (4, q_i x4)]) rfl ?_
          exact bk_X8_nextArc_75 hK hR hrec_5 hF
        · have hF := if_f hF hc
          refine aw_aload_n hK 1 rfl dX8_nextArc_51 ?_
          refine gf_8_16 hK rfl (83) rfl (List.mem_of_getElem? (i := 3) rfl) dX8_nextArc_52 ?_
          refine aw_iload hK 0 rfl dX8_nextArc_55 ?_
          obtain ⟨g5, hF⟩ := gd_some hF
          refine aw_zald hK rfl g5 dX8_nextArc_57 ?_
          refine aw_if_eq hK 75 rfl dX8_nextArc_58 (fun hc => ?_) (fun hc => ?_)
          · have hF := if_t hF hc
            refine aw_sub [1, 2, 3, 4, 5] (lv' := [(0, q_r 70), (1, q_i x1), (2, q_i x2), (3, q_i x3), (4, q_i x4)]) rfl ?_
            exact bk_X8_nextArc_75 hK hR hrec_5 hF
          · have hF := if_f hF hc
            refine aw_aload_n hK 1 rfl dX8_nextArc_61 ?_
            refine gf_8_17 hK rfl (84) rfl (List.mem_of_getElem? (i := 4) rfl) dX8_nextArc_62 ?_
            refine aw_iload hK 0 rfl dX8_nextArc_65 ?_
            obtain ⟨g6, hF⟩ := gd_some hF
            refine aw_zald hK rfl g6 dX8_nextArc_67 ?_
            refine aw_if_eq hK 75 rfl dX8_nextArc_68 (fun hc => ?_) (fun hc => ?_)
            · have hF := if_t hF hc
              refine aw_sub [1, 2, 3, 4, 5] (lv' := [(0, q_r 70), (1, q_i x1), (2, q_i x2), (3, q_i x3), (4, q_i x4)]) rfl ?_
              exact bk_X8_nextArc_75 hK hR hrec_5 hF
            · have hF := if_f hF hc
              refine aw_iconst hK (1) rfl dX8_nextArc_71 ?_
              refine aw_goto hK 76 rfl dX8_nextArc_72 ?_
              refine aw_sub [1, 2, 3, 4, 5] (lv' := [(0, q_r 70), (1, q_i x1), (2, q_i x2), (3, q_i x3), (4, q_i x4)]) rfl ?_
              exact bk_X8_nextArc_76 hK hR hrec_5 hF
def F_X8_nextArc (N : Nat) (m : Mem) (x1 : Int32) (x2 : Int32) : Option (Int32 × Mem) :=
  L_X8_nextArc_5 N N m x1 x2 (-1 : Int32) (0 : Int32)
set_option maxRecDepth 100000 in
set_option maxHeartbeats 4000000 in
theorem tr_X8_nextArc {N : Nat} {m m' : Mem} {r : Int32} {x1 : Int32} {x2 : Int32} (hF : F_X8_nextArc N m x1 x2 = some (r, m')) : Tr yX8_nextArc wsX8_nextArc 1 20 [q_r 70, q_i x1, q_i x2] m (some r) m' := by
  refine tr_of (bytes := cX8_nextArc) (maxL := 7) (ret := (some .int)) (by decide) rfl (Nat.le_of_ble_eq_true rfl) (fun K hK hR => ?_)
  have hK : KOK K cX8_nextArc 7 RX8 wsX8_nextArc 1 0 20 := hK
  show AW K 0 0 [(0, q_r 70), (1, q_i x1), (2, q_i x2)] [] m
  unfold F_X8_nextArc at hF
  refine aw_iconst hK (-1) rfl dX8_nextArc_0 ?_
  refine aw_istore_n hK [(3, q_i (-1 : Int32)), (0, q_r 70), (1, q_i x1), (2, q_i x2)] (by decide) rfl dX8_nextArc_1 ?_
  refine aw_iconst hK (0) rfl dX8_nextArc_2 ?_
  refine aw_istore hK [(4, q_i (0 : Int32)), (3, q_i (-1 : Int32)), (0, q_r 70), (1, q_i x1), (2, q_i x2)] (by decide) rfl dX8_nextArc_3 ?_
  refine aw_sub [2, 3, 4, 1, 0] (lv' := [(0, q_r 70), (1, q_i x1), (2, q_i x2), (3, q_i (-1 : Int32)), (4, q_i (0 : Int32))]) rfl ?_
  exact lp_X8_nextArc_5 hK hR _ hF
def B_X8_finds_49 (N : Nat) (m : Mem) : Option Mem :=
  some m
set_option maxRecDepth 100000 in
set_option maxHeartbeats 4000000 in
theorem bk_X8_finds_49 {N : Nat} {K : KT} {m' : Mem} (hK : KOK K cX8_finds 2 RX8 wsX8_finds 0 0 0) (hR : KRet K none none m') {m : Mem} (hF : B_X8_finds_49 N m = some m') : AW K 0 49 [] [] m := by
  unfold B_X8_finds_49 at hF
  obtain rfl := Option.some.inj hF
  exact aw_vret hK hR dX8_finds_49
def B_X8_finds_39 (N : Nat) (m : Mem) : Option Mem :=
  bnd (mup m 70 20 ((m 70 20) + (1 : Int32))) fun m6 =>
  B_X8_finds_49 N m6
set_option maxRecDepth 100000 in
set_option maxHeartbeats 4000000 in
theorem bk_X8_finds_39 {N : Nat} {K : KT} {m' : Mem} (hK : KOK K cX8_finds 2 RX8 wsX8_finds 0 0 0) (hR : KRet K none none m') {m : Mem} (hF : B_X8_finds_39 N m = some m') : AW K 0 39 [(0, q_r 70)] [] m := by
  unfold B_X8_finds_39 at hF
  refine aw_aload_n hK 0 rfl dX8_finds_39 ?_
  refine aw_dup hK rfl dX8_finds_40 ?_
  refine gf_8_20 hK rfl (List.mem_of_getElem? (i := 2) rfl) dX8_finds_41 ?_
  refine aw_iconst hK (1) rfl dX8_finds_44 ?_
  refine aw_iadd hK dX8_finds_45 ?_
  refine pf_8_20 hK rfl (List.mem_of_getElem? (i := 2) rfl) dX8_finds_46 ?_
  obtain ⟨m6, hm6, hF⟩ := bnd_some hF
  refine aw_mm hm6 ?_
  refine aw_sub [] (lv' := []) rfl ?_
  exact bk_X8_finds_49 hK hR hF
def F_X8_finds (N : Nat) (m : Mem) (x1 : Int32) : Option Mem :=
  gd (inb x1 (alen 85)) <|
  if (m 85 (ix x1)) = (-1 : Int32) then (
    gd (inb x1 (alen 85)) <|
    bnd (mup m 85 (ix x1) (m 70 20)) fun m3 =>
    if (32 : Int32) < (m3 70 20) then (
      B_X8_finds_39 N m3
    ) else (
      gd (inb (m3 70 20) (alen 86)) <|
      bnd (mup m3 86 (ix (m3 70 20)) x1) fun m5 =>
      B_X8_finds_39 N m5
    )
  ) else (
    B_X8_finds_49 N m
  )
set_option maxRecDepth 100000 in
set_option maxHeartbeats 4000000 in
theorem tr_X8_finds {N : Nat} {m m' : Mem} {x1 : Int32} (hF : F_X8_finds N m x1 = some m') : Tr yX8_finds wsX8_finds 0 0 [q_r 70, q_i x1] m none m' := by
  refine tr_of (bytes := cX8_finds) (maxL := 2) (ret := none) (by decide) rfl (Nat.le_of_ble_eq_true rfl) (fun K hK hR => ?_)
  have hK : KOK K cX8_finds 2 RX8 wsX8_finds 0 0 0 := hK
  show AW K 0 0 [(0, q_r 70), (1, q_i x1)] [] m
  unfold F_X8_finds at hF
  refine aw_aload_n hK 0 rfl dX8_finds_0 ?_
  refine gf_8_18 hK rfl (85) rfl (List.mem_of_getElem? (i := 1) rfl) dX8_finds_1 ?_
  refine aw_iload_n hK 1 rfl dX8_finds_4 ?_
  obtain ⟨g1, hF⟩ := gd_some hF
  refine aw_iald hK rfl g1 dX8_finds_5 ?_
  refine aw_iconst hK (-1) rfl dX8_finds_6 ?_
  refine aw_icmp_ne hK 49 rfl dX8_finds_7 (fun hc => ?_) (fun hc => ?_)
  · have hF := if_f hF hc
    refine aw_sub [] (lv' := []) rfl ?_
    exact bk_X8_finds_49 hK hR hF
  · have hF := if_t hF hc
    refine aw_aload_n hK 0 rfl dX8_finds_10 ?_
    refine gf_8_18 hK rfl (85) rfl (List.mem_of_getElem? (i := 1) rfl) dX8_finds_11 ?_
    refine aw_iload_n hK 1 rfl dX8_finds_14 ?_
    refine aw_aload_n hK 0 rfl dX8_finds_15 ?_
    refine gf_8_20 hK rfl (List.mem_of_getElem? (i := 2) rfl) dX8_finds_16 ?_
    obtain ⟨g2, hF⟩ := gd_some hF
    refine aw_iast hK rfl g2 dX8_finds_19 ?_
    obtain ⟨m3, hm3, hF⟩ := bnd_some hF
    refine aw_mm hm3 ?_
    refine aw_aload_n hK 0 rfl dX8_finds_20 ?_
    refine gf_8_20 hK rfl (List.mem_of_getElem? (i := 2) rfl) dX8_finds_21 ?_
    refine aw_bipush hK (32) rfl dX8_finds_24 ?_
    refine aw_icmp_gt hK 39 rfl dX8_finds_26 (fun hc => ?_) (fun hc => ?_)
    · have hF := if_t hF hc
      refine aw_sub [0] (lv' := [(0, q_r 70)]) rfl ?_
      exact bk_X8_finds_39 hK hR hF
    · have hF := if_f hF hc
      refine aw_aload_n hK 0 rfl dX8_finds_29 ?_
      refine gf_8_19 hK rfl (86) rfl (List.mem_of_getElem? (i := 3) rfl) dX8_finds_30 ?_
      refine aw_aload_n hK 0 rfl dX8_finds_33 ?_
      refine gf_8_20 hK rfl (List.mem_of_getElem? (i := 2) rfl) dX8_finds_34 ?_
      refine aw_iload_n hK 1 rfl dX8_finds_37 ?_
      obtain ⟨g4, hF⟩ := gd_some hF
      refine aw_iast hK rfl g4 dX8_finds_38 ?_
      obtain ⟨m5, hm5, hF⟩ := bnd_some hF
      refine aw_mm hm5 ?_
      refine aw_sub [0] (lv' := [(0, q_r 70)]) rfl ?_
      exact bk_X8_finds_39 hK hR hF
def B_X8_trims_320 (N : Nat) (m : Mem) (x2 : Int32) : Option (Int32 × Mem) :=
  gd (isb x2) <|
  some (x2, m)
set_option maxRecDepth 100000 in
set_option maxHeartbeats 4000000 in
theorem bk_X8_trims_320 {N : Nat} {K : KT} {m' : Mem} {r : Int32} (hK : KOK K cX8_trims 5 RX8 wsX8_trims 2 0 46) (hR : KRet K (some .boolean) (some r) m') {m : Mem} {x2 : Int32} (hF : B_X8_trims_320 N m x2 = some (r, m')) : AW K 0 320 [(2, q_i x2)] [] m := by
  unfold B_X8_trims_320 at hF
  refine aw_iload_n hK 0 rfl dX8_trims_320 ?_
  obtain ⟨g45, hF⟩ := gd_some hF
  obtain ⟨rfl, rfl⟩ := so_inj hF
  exact aw_iret hK hR (isb_narrow g45) dX8_trims_321
def B_X8_trims_310 (N : Nat) (rec_272 : Mem → Int32 → Int32 → Option (Int32 × Mem)) (m : Mem) (x2 : Int32) (x3 : Int32) (s0 : Int32) (s1 : Int32) : Option (Int32 × Mem) :=
  bnd (mup m 70 27 (s1 ||| s0)) fun m43 =>
  bnd (x3 + (1 : Int32)) fun y44 =>
  rec_272 m43 x2 y44
set_option maxRecDepth 100000 in
set_option maxHeartbeats 4000000 in
theorem bk_X8_trims_310 {N : Nat} {K : KT} {m' : Mem} {rec_272 : Mem → Int32 → Int32 → Option (Int32 × Mem)} {r : Int32} (hK : KOK K cX8_trims 5 RX8 wsX8_trims 2 0 46) (hR : KRet K (some .boolean) (some r) m') (hrec_272 : ∀ {m : Mem} {x2 : Int32} {x3 : Int32}, rec_272 m x2 x3 = some (r, m') → AW K 0 272 [(0, q_r 70), (2, q_i x2), (3, q_i x3)] [] m) {m : Mem} {x2 : Int32} {x3 : Int32} {s0 : Int32} {s1 : Int32} (hF : B_X8_trims_310 N rec_272 m x2 x3 s0 s1 = some (r, m')) : AW K 0 310 [(0, q_r 70), (2, q_i x2), (3, q_i x3)] [q_i s0, q_i s1, q_r 70] m := by
  unfold B_X8_trims_310 at hF
  refine aw_ior hK dX8_trims_310 ?_
  refine pf_8_27 hK rfl (List.mem_of_getElem? (i := 13) rfl) dX8_trims_311 ?_
  obtain ⟨m43, hm43, hF⟩ := bnd_some hF
  refine aw_mm hm43 ?_
  obtain ⟨y44, hy44, hF⟩ := bnd_some hF
  refine aw_iinc hK (cz := 1) 2 [(3, q_i y44), (0, q_r 70), (2, q_i x2)] (by decide) rfl rfl hy44 rfl dX8_trims_314 ?_
  refine aw_goto hK 272 rfl dX8_trims_317 ?_
  refine aw_sub [1, 2, 0] (lv' := [(0, q_r 70), (2, q_i x2), (3, q_i y44)]) rfl ?_
  exact hrec_272 hF
def S_X8_trims_272 (N : Nat) (rec_272 : Mem → Int32 → Int32 → Option (Int32 × Mem)) (m : Mem) (x2 : Int32) (x3 : Int32) : Option (Int32 × Mem) :=
  if (m 70 20) ≤ x3 then (
    B_X8_trims_320 N m x2
  ) else (
    if x2 = (0 : Int32) then (
      B_X8_trims_320 N m x2
    ) else (
      gd (inb x3 (alen 86)) <|
      gd (inb (m 86 (ix x3)) (alen 82)) <|
      if (m 82 (ix (m 86 (ix x3)))) = (0 : Int32) then (
        B_X8_trims_310 N rec_272 m x2 x3 (0 : Int32) (m 70 27)
      ) else (
        B_X8_trims_310 N rec_272 m x2 x3 (q_shl (1 : Int32) x3) (m 70 27)
      )
    )
  )
def L_X8_trims_272 (N : Nat) : Nat → Mem → Int32 → Int32 → Option (Int32 × Mem)
  | 0 => fun _ _ _ => none
  | f + 1 => S_X8_trims_272 N (L_X8_trims_272 N f)
set_option maxRecDepth 100000 in
set_option maxHeartbeats 4000000 in
theorem lp_X8_trims_272 {N : Nat} {K : KT} {m' : Mem} {r : Int32} (hK : KOK K cX8_trims 5 RX8 wsX8_trims 2 0 46) (hR : KRet K (some .boolean) (some r) m') : ∀ (f : Nat) {m : Mem} {x2 : Int32} {x3 : Int32}, L_X8_trims_272 N f m x2 x3 = some (r, m') → AW K 0 272 [(0, q_r 70), (2, q_i x2), (3, q_i x3)] [] m := by
  intro f
  induction f with
  | zero => intro m x2 x3 hF; cases hF
  | succ f hrec_272 =>
    intro m x2 x3 hF
    have hF : S_X8_trims_272 N (L_X8_trims_272 N f) m x2 x3 = some (r, m') := hF
    unfold S_X8_trims_272 at hF
    refine aw_iload_n hK 2 rfl dX8_trims_272 ?_
    refine aw_aload_n hK 0 rfl dX8_trims_273 ?_
    refine gf_8_20 hK rfl (List.mem_of_getElem? (i := 2) rfl) dX8_trims_274 ?_
    refine aw_icmp_ge hK 320 rfl dX8_trims_277 (fun hc => ?_) (fun hc => ?_)
    · have hF := if_t hF hc
      refine aw_sub [1] (lv' := [(2, q_i x2)]) rfl ?_
      exact bk_X8_trims_320 hK hR hF
    · have hF := if_f hF hc
      refine aw_iload_n hK 1 rfl dX8_trims_280 ?_
      refine aw_if_eq hK 320 rfl dX8_trims_281 (fun hc => ?_) (fun hc => ?_)
      · have hF := if_t hF hc
        refine aw_sub [1] (lv' := [(2, q_i x2)]) rfl ?_
        exact bk_X8_trims_320 hK hR hF
      · have hF := if_f hF hc
        refine aw_aload_n hK 0 rfl dX8_trims_284 ?_
        refine aw_dup hK rfl dX8_trims_285 ?_
        refine gf_8_27 hK rfl (List.mem_of_getElem? (i := 13) rfl) dX8_trims_286 ?_
        refine aw_aload_n hK 0 rfl dX8_trims_289 ?_
        refine gf_8_15 hK rfl (82) rfl (List.mem_of_getElem? (i := 14) rfl) dX8_trims_290 ?_
        refine aw_aload_n hK 0 rfl dX8_trims_293 ?_
        refine gf_8_19 hK rfl (86) rfl (List.mem_of_getElem? (i := 5) rfl) dX8_trims_294 ?_
        refine aw_iload_n hK 2 rfl dX8_trims_297 ?_
        obtain ⟨g41, hF⟩ := gd_some hF
        refine aw_iald hK rfl g41 dX8_trims_298 ?_
        obtain ⟨g42, hF⟩ := gd_some hF
        refine aw_zald hK rfl g42 dX8_trims_299 ?_
        refine aw_if_eq hK 309 rfl dX8_trims_300 (fun hc => ?_) (fun hc => ?_)
        · have hF := if_t hF hc
          refine aw_iconst hK (0) rfl dX8_trims_309 ?_
          refine aw_sub [0, 1, 2] (lv' := [(0, q_r 70), (2, q_i x2), (3, q_i x3)]) rfl ?_
          exact bk_X8_trims_310 hK hR hrec_272 hF
        · have hF := if_f hF hc
          refine aw_iconst hK (1) rfl dX8_trims_303 ?_
          refine aw_iload_n hK 2 rfl dX8_trims_304 ?_
          refine aw_ishl hK dX8_trims_305 ?_
          refine aw_goto hK 310 rfl dX8_trims_306 ?_
          refine aw_sub [0, 1, 2] (lv' := [(0, q_r 70), (2, q_i x2), (3, q_i x3)]) rfl ?_
          exact bk_X8_trims_310 hK hR hrec_272 hF
def B_X8_trims_265 (N : Nat) (m : Mem) (x2 : Int32) : Option (Int32 × Mem) :=
  bnd (mup m 70 27 (0 : Int32)) fun m40 =>
  L_X8_trims_272 N N m40 x2 (0 : Int32)
set_option maxRecDepth 100000 in
set_option maxHeartbeats 4000000 in
theorem bk_X8_trims_265 {N : Nat} {K : KT} {m' : Mem} {r : Int32} (hK : KOK K cX8_trims 5 RX8 wsX8_trims 2 0 46) (hR : KRet K (some .boolean) (some r) m') {m : Mem} {x2 : Int32} (hF : B_X8_trims_265 N m x2 = some (r, m')) : AW K 0 265 [(0, q_r 70), (2, q_i x2)] [] m := by
  unfold B_X8_trims_265 at hF
  refine aw_aload_n hK 0 rfl dX8_trims_265 ?_
  refine aw_iconst hK (0) rfl dX8_trims_266 ?_
  refine pf_8_27 hK rfl (List.mem_of_getElem? (i := 13) rfl) dX8_trims_267 ?_
  obtain ⟨m40, hm40, hF⟩ := bnd_some hF
  refine aw_mm hm40 ?_
  refine aw_iconst hK (0) rfl dX8_trims_270 ?_
  refine aw_istore_n hK [(3, q_i (0 : Int32)), (0, q_r 70), (2, q_i x2)] (by decide) rfl dX8_trims_271 ?_
  refine aw_sub [1, 2, 0] (lv' := [(0, q_r 70), (2, q_i x2), (3, q_i (0 : Int32))]) rfl ?_
  exact lp_X8_trims_272 hK hR _ hF
def B_X8_trims_259 (N : Nat) (rec_46 : Mem → Int32 → Int32 → Int32 → Option (Int32 × Mem)) (m : Mem) (x1 : Int32) (x2 : Int32) (x3 : Int32) : Option (Int32 × Mem) :=
  bnd (x3 + (1 : Int32)) fun y39 =>
  rec_46 m x1 x2 y39
set_option maxRecDepth 100000 in
set_option maxHeartbeats 4000000 in
theorem bk_X8_trims_259 {N : Nat} {K : KT} {m' : Mem} {rec_46 : Mem → Int32 → Int32 → Int32 → Option (Int32 × Mem)} {r : Int32} (hK : KOK K cX8_trims 5 RX8 wsX8_trims 2 0 46) (hR : KRet K (some .boolean) (some r) m') (hrec_46 : ∀ {m : Mem} {x1 : Int32} {x2 : Int32} {x3 : Int32}, rec_46 m x1 x2 x3 = some (r, m') → AW K 0 46 [(0, q_r 70), (1, q_i x1), (2, q_i x2), (3, q_i x3)] [] m) {m : Mem} {x1 : Int32} {x2 : Int32} {x3 : Int32} (hF : B_X8_trims_259 N rec_46 m x1 x2 x3 = some (r, m')) : AW K 0 259 [(0, q_r 70), (1, q_i x1), (2, q_i x2), (3, q_i x3)] [] m := by
  unfold B_X8_trims_259 at hF
  obtain ⟨y39, hy39, hF⟩ := bnd_some hF
  refine aw_iinc hK (cz := 1) 3 [(3, q_i y39), (0, q_r 70), (1, q_i x1), (2, q_i x2)] (by decide) rfl rfl hy39 rfl dX8_trims_259 ?_
  refine aw_goto hK 46 rfl dX8_trims_262 ?_
  refine aw_sub [1, 2, 3, 0] (lv' := [(0, q_r 70), (1, q_i x1), (2, q_i x2), (3, q_i y39)]) rfl ?_
  exact hrec_46 hF
def B_X8_trims_237 (N : Nat) (rec_46 : Mem → Int32 → Int32 → Int32 → Option (Int32 × Mem)) (rec_80 : Mem → Int32 → Int32 → Int32 → Int32 → Option (Int32 × Mem)) (m : Mem) (x1 : Int32) (x2 : Int32) (x3 : Int32) (x4 : Int32) : Option (Int32 × Mem) :=
  gd (inb x3 (alen 86)) <|
  gd (inb x4 (alen 80)) <|
  cal (F_X8_nextArc N m (m 86 (ix x3)) (m 80 (ix x4))) fun r38 m37 =>
  rec_80 m37 x1 x2 x3 r38
set_option maxRecDepth 100000 in
set_option maxHeartbeats 4000000 in
theorem bk_X8_trims_237 {N : Nat} {K : KT} {m' : Mem} {rec_46 : Mem → Int32 → Int32 → Int32 → Option (Int32 × Mem)} {rec_80 : Mem → Int32 → Int32 → Int32 → Int32 → Option (Int32 × Mem)} {r : Int32} (hK : KOK K cX8_trims 5 RX8 wsX8_trims 2 0 46) (hR : KRet K (some .boolean) (some r) m') (hrec_46 : ∀ {m : Mem} {x1 : Int32} {x2 : Int32} {x3 : Int32}, rec_46 m x1 x2 x3 = some (r, m') → AW K 0 46 [(0, q_r 70), (1, q_i x1), (2, q_i x2), (3, q_i x3)] [] m) (hrec_80 : ∀ {m : Mem} {x1 : Int32} {x2 : Int32} {x3 : Int32} {x4 : Int32}, rec_80 m x1 x2 x3 x4 = some (r, m') → AW K 0 80 [(0, q_r 70), (1, q_i x1), (2, q_i x2), (3, q_i x3), (4, q_i x4)] [] m) {m : Mem} {x1 : Int32} {x2 : Int32} {x3 : Int32} {x4 : Int32} (hF : B_X8_trims_237 N rec_46 rec_80 m x1 x2 x3 x4 = some (r, m')) : AW K 0 237 [(0, q_r 70), (1, q_i x1), (2, q_i x2), (3, q_i x3), (4, q_i x4)] [] m := by
  unfold B_X8_trims_237 at hF
  refine aw_aload_n hK 0 rfl dX8_trims_237 ?_
  refine aw_aload_n hK 0 rfl dX8_trims_238 ?_
  refine gf_8_19 hK rfl (86) rfl (List.mem_of_getElem? (i := 5) rfl) dX8_trims_239 ?_
  refine aw_iload_n hK 3 rfl dX8_trims_242 ?_
  obtain ⟨g34, hF⟩ := gd_some hF
  refine aw_iald hK rfl g34 dX8_trims_243 ?_
  refine aw_aload_n hK 0 rfl dX8_trims_244 ?_
  refine gf_8_12 hK rfl (80) rfl (List.mem_of_getElem? (i := 6) rfl) dX8_trims_245 ?_
  refine aw_iload hK 4 rfl dX8_trims_248 ?_
  obtain ⟨g35, hF⟩ := gd_some hF
  refine aw_iald hK rfl g35 dX8_trims_250 ?_
  obtain ⟨r38, m37, h36, hF⟩ := cal_some hF
  refine aw_cv hK 8 (as := [q_i (m 86 (ix x3)), q_i (m 80 (ix x4))]) (tr_X8_nextArc h36) gX8_trims_X8_nextArc rfl rfl rfl (by decide) (na := 2) (by decide +kernel) rfl ⟨by decide, by decide⟩ (Nat.zero_le _) (Nat.le_of_ble_eq_true rfl) dX8_trims_251 ?_
  refine aw_istore hK [(4, q_i r38), (0, q_r 70), (1, q_i x1), (2, q_i x2), (3, q_i x3)] (by decide) rfl dX8_trims_254 ?_
  refine aw_goto hK 80 rfl dX8_trims_256 ?_
  refine aw_sub [1, 2, 3, 4, 0] (lv' := [(0, q_r 70), (1, q_i x1), (2, q_i x2), (3, q_i x3), (4, q_i r38)]) rfl ?_
  exact hrec_80 hF
def B_X8_trims_128 (N : Nat) (rec_46 : Mem → Int32 → Int32 → Int32 → Option (Int32 × Mem)) (rec_80 : Mem → Int32 → Int32 → Int32 → Int32 → Option (Int32 × Mem)) (m : Mem) (x1 : Int32) (x3 : Int32) (x4 : Int32) (s0 : Int32) : Option (Int32 × Mem) :=
  if s0 = (0 : Int32) then (
    B_X8_trims_237 N rec_46 rec_80 m x1 s0 x3 x4
  ) else (
    gd (inb (m 70 26) (alen 87)) <|
    bnd (mup m 87 (ix (m 70 26)) x3) fun m19 =>
    gd (inb x4 (alen 80)) <|
    gd (inb (m19 70 26) (alen 88)) <|
    bnd (mup m19 88 (ix (m19 70 26)) ((q_shr (m19 80 (ix x4)) (14 : Int32)) &&& (15 : Int32))) fun m22 =>
    gd (inb x4 (alen 80)) <|
    gd (inb (m22 70 26) (alen 89)) <|
    bnd (mup m22 89 (ix (m22 70 26)) ((q_shr (m22 80 (ix x4)) (10 : Int32)) &&& (15 : Int32))) fun m25 =>
    gd (inb x4 (alen 81)) <|
    gd (inb (m25 70 26) (alen 90)) <|
    bnd (mup m25 90 (ix (m25 70 26)) (m25 81 (ix x4))) fun m28 =>
    gd (inb x4 (alen 80)) <|
    gd (inb (P_X8_targetOf (m28 80 (ix x4))) (alen 85)) <|
    gd (inb (m28 70 26) (alen 91)) <|
    bnd (mup m28 91 (ix (m28 70 26)) (m28 85 (ix (P_X8_targetOf (m28 80 (ix x4)))))) fun m32 =>
    bnd (mup m32 70 26 ((m32 70 26) + (1 : Int32))) fun m33 =>
    B_X8_trims_237 N rec_46 rec_80 m33 x1 s0 x3 x4
  )
set_option maxRecDepth 100000 in
set_option maxHeartbeats 4000000 in
theorem bk_X8_trims_128 {N : Nat} {K : KT} {m' : Mem} {rec_46 : Mem → Int32 → Int32 → Int32 → Option (Int32 × Mem)} {rec_80 : Mem → Int32 → Int32 → Int32 → Int32 → Option (Int32 × Mem)} {r : Int32} (hK : KOK K cX8_trims 5 RX8 wsX8_trims 2 0 46) (hR : KRet K (some .boolean) (some r) m') (hrec_46 : ∀ {m : Mem} {x1 : Int32} {x2 : Int32} {x3 : Int32}, rec_46 m x1 x2 x3 = some (r, m') → AW K 0 46 [(0, q_r 70), (1, q_i x1), (2, q_i x2), (3, q_i x3)] [] m) (hrec_80 : ∀ {m : Mem} {x1 : Int32} {x2 : Int32} {x3 : Int32} {x4 : Int32}, rec_80 m x1 x2 x3 x4 = some (r, m') → AW K 0 80 [(0, q_r 70), (1, q_i x1), (2, q_i x2), (3, q_i x3), (4, q_i x4)] [] m) {m : Mem} {x1 : Int32} {x3 : Int32} {x4 : Int32} {s0 : Int32} (hF : B_X8_trims_128 N rec_46 rec_80 m x1 x3 x4 s0 = some (r, m')) : AW K 0 128 [(0, q_r 70), (1, q_i x1), (3, q_i x3), (4, q_i x4)] [q_i s0] m := by
  unfold B_X8_trims_128 at hF
  refine aw_istore_n hK [(2, q_i s0), (0, q_r 70), (1, q_i x1), (3, q_i x3), (4, q_i x4)] (by decide) rfl dX8_trims_128 ?_
  refine aw_iload_n hK 0 rfl dX8_trims_129 ?_
  refine aw_if_eq hK 237 rfl dX8_trims_130 (fun hc => ?_) (fun hc => ?_)
  · have hF := if_t hF hc
    refine aw_sub [1, 2, 0, 3, 4] (lv' := [(0, q_r 70), (1, q_i x1), (2, q_i s0), (3, q_i x3), (4, q_i x4)]) rfl ?_
    exact bk_X8_trims_237 hK hR hrec_46 hrec_80 hF
  · have hF := if_f hF hc
    refine aw_aload_n hK 1 rfl dX8_trims_133 ?_
    refine gf_8_21 hK rfl (87) rfl (List.mem_of_getElem? (i := 7) rfl) dX8_trims_134 ?_
    refine aw_aload_n hK 1 rfl dX8_trims_137 ?_
    refine gf_8_26 hK rfl (List.mem_of_getElem? (i := 3) rfl) dX8_trims_138 ?_
    refine aw_iload_n hK 3 rfl dX8_trims_141 ?_
    obtain ⟨g18, hF⟩ := gd_some hF
    refine aw_iast hK rfl g18 dX8_trims_142 ?_
    obtain ⟨m19, hm19, hF⟩ := bnd_some hF
    refine aw_mm hm19 ?_
    refine aw_aload_n hK 1 rfl dX8_trims_143 ?_
    refine gf_8_22 hK rfl (88) rfl (List.mem_of_getElem? (i := 8) rfl) dX8_trims_144 ?_
    refine aw_aload_n hK 1 rfl dX8_trims_147 ?_
    refine gf_8_26 hK rfl (List.mem_of_getElem? (i := 3) rfl) dX8_trims_148 ?_
    refine aw_aload_n hK 1 rfl dX8_trims_151 ?_
    refine gf_8_12 hK rfl (80) rfl (List.mem_of_getElem? (i := 6) rfl) dX8_trims_152 ?_
    refine aw_iload hK 4 rfl dX8_trims_155 ?_
    obtain ⟨g20, hF⟩ := gd_some hF
    refine aw_iald hK rfl g20 dX8_trims_157 ?_
    refine aw_bipush hK (14) rfl dX8_trims_158 ?_
    refine aw_ishr hK dX8_trims_160 ?_
    refine aw_bipush hK (15) rfl dX8_trims_161 ?_
    refine aw_iand hK dX8_trims_163 ?_
    obtain ⟨g21, hF⟩ := gd_some hF
    refine aw_iast hK rfl g21 dX8_trims_164 ?_
    obtain ⟨m22, hm22, hF⟩ := bnd_some hF
    refine aw_mm hm22 ?_
    refine aw_aload_n hK 1 rfl dX8_trims_165 ?_
    refine gf_8_23 hK rfl (89) rfl (List.mem_of_getElem? (i := 9) rfl) dX8_trims_166 ?_
    refine aw_aload_n hK 1 rfl dX8_trims_169 ?_
    refine gf_8_26 hK rfl (List.mem_of_getElem? (i := 3) rfl) dX8_trims_170 ?_
    refine aw_aload_n hK 1 rfl dX8_trims_173 ?_
    refine gf_8_12 hK rfl (80) rfl (List.mem_of_getElem? (i := 6) rfl) dX8_trims_174 ?_
    refine aw_iload hK 4 rfl dX8_trims_177 ?_
    obtain ⟨g23, hF⟩ := gd_some hF
    refine aw_iald hK rfl g23 dX8_trims_179 ?_
    refine aw_bipush hK (10) rfl dX8_trims_180 ?_
    refine aw_ishr hK dX8_trims_182 ?_
    refine aw_bipush hK (15) rfl dX8_trims_183 ?_
    refine aw_iand hK dX8_trims_185 ?_
    obtain ⟨g24, hF⟩ := gd_some hF
    refine aw_iast hK rfl g24 dX8_trims_186 ?_
    obtain ⟨m25, hm25, hF⟩ := bnd_some hF
    refine aw_mm hm25 ?_
    refine aw_aload_n hK 1 rfl dX8_trims_187 ?_
    refine gf_8_24 hK rfl (90) rfl (List.mem_of_getElem? (i := 10) rfl) dX8_trims_188 ?_
    refine aw_aload_n hK 1 rfl dX8_trims_191 ?_
    refine gf_8_26 hK rfl (List.mem_of_getElem? (i := 3) rfl) dX8_trims_192 ?_
    refine aw_aload_n hK 1 rfl dX8_trims_195 ?_
    refine gf_8_13 hK rfl (81) rfl (List.mem_of_getElem? (i := 11) rfl) dX8_trims_196 ?_
    refine aw_iload hK 4 rfl dX8_trims_199 ?_
    obtain ⟨g26, hF⟩ := gd_some hF
    refine aw_iald hK rfl g26 dX8_trims_201 ?_
    obtain ⟨g27, hF⟩ := gd_some hF
    refine aw_iast hK rfl g27 dX8_trims_202 ?_
    obtain ⟨m28, hm28, hF⟩ := bnd_some hF
    refine aw_mm hm28 ?_
    refine aw_aload_n hK 1 rfl dX8_trims_203 ?_
    refine gf_8_25 hK rfl (91) rfl (List.mem_of_getElem? (i := 12) rfl) dX8_trims_204 ?_
    refine aw_aload_n hK 1 rfl dX8_trims_207 ?_
    refine gf_8_26 hK rfl (List.mem_of_getElem? (i := 3) rfl) dX8_trims_208 ?_
    refine aw_aload_n hK 1 rfl dX8_trims_211 ?_
    refine gf_8_18 hK rfl (85) rfl (List.mem_of_getElem? (i := 1) rfl) dX8_trims_212 ?_
    refine aw_aload_n hK 1 rfl dX8_trims_215 ?_
    refine gf_8_12 hK rfl (80) rfl (List.mem_of_getElem? (i := 6) rfl) dX8_trims_216 ?_
    refine aw_iload hK 4 rfl dX8_trims_219 ?_
    obtain ⟨g29, hF⟩ := gd_some hF
    refine aw_iald hK rfl g29 dX8_trims_221 ?_
    refine aw_cs hK (as := [q_i (m28 80 (ix x4))]) (trp_X8_targetOf (m28 80 (ix x4)) _) gX8_trims_X8_targetOf rfl (na := 1) (by decide +kernel) rfl ⟨by decide, by decide⟩ (Nat.zero_le _) (Nat.le_of_ble_eq_true rfl) dX8_trims_222 ?_
    obtain ⟨g30, hF⟩ := gd_some hF
    refine aw_iald hK rfl g30 dX8_trims_225 ?_
    obtain ⟨g31, hF⟩ := gd_some hF
    refine aw_iast hK rfl g31 dX8_trims_226 ?_
    obtain ⟨m32, hm32, hF⟩ := bnd_some hF
    refine aw_mm hm32 ?_
    refine aw_aload_n hK 1 rfl dX8_trims_227 ?_
    refine aw_dup hK rfl dX8_trims_228 ?_
    refine gf_8_26 hK rfl (List.mem_of_getElem? (i := 3) rfl) dX8_trims_229 ?_
    refine aw_iconst hK (1) rfl dX8_trims_232 ?_
    refine aw_iadd hK dX8_trims_233 ?_
    refine pf_8_26 hK rfl (List.mem_of_getElem? (i := 3) rfl) dX8_trims_234 ?_
    obtain ⟨m33, hm33, hF⟩ := bnd_some hF
    refine aw_mm hm33 ?_
    refine aw_sub [1, 2, 0, 3, 4] (lv' := [(0, q_r 70), (1, q_i x1), (2, q_i s0), (3, q_i x3), (4, q_i x4)]) rfl ?_
    exact bk_X8_trims_237 hK hR hrec_46 hrec_80 hF
def B_X8_trims_127 (N : Nat) (rec_46 : Mem → Int32 → Int32 → Int32 → Option (Int32 × Mem)) (rec_80 : Mem → Int32 → Int32 → Int32 → Int32 → Option (Int32 × Mem)) (m : Mem) (x1 : Int32) (x3 : Int32) (x4 : Int32) : Option (Int32 × Mem) :=
  B_X8_trims_128 N rec_46 rec_80 m x1 x3 x4 (0 : Int32)
set_option maxRecDepth 100000 in
set_option maxHeartbeats 4000000 in
theorem bk_X8_trims_127 {N : Nat} {K : KT} {m' : Mem} {rec_46 : Mem → Int32 → Int32 → Int32 → Option (Int32 × Mem)} {rec_80 : Mem → Int32 → Int32 → Int32 → Int32 → Option (Int32 × Mem)} {r : Int32} (hK : KOK K cX8_trims 5 RX8 wsX8_trims 2 0 46) (hR : KRet K (some .boolean) (some r) m') (hrec_46 : ∀ {m : Mem} {x1 : Int32} {x2 : Int32} {x3 : Int32}, rec_46 m x1 x2 x3 = some (r, m') → AW K 0 46 [(0, q_r 70), (1, q_i x1), (2, q_i x2), (3, q_i x3)] [] m) (hrec_80 : ∀ {m : Mem} {x1 : Int32} {x2 : Int32} {x3 : Int32} {x4 : Int32}, rec_80 m x1 x2 x3 x4 = some (r, m') → AW K 0 80 [(0, q_r 70), (1, q_i x1), (2, q_i x2), (3, q_i x3), (4, q_i x4)] [] m) {m : Mem} {x1 : Int32} {x3 : Int32} {x4 : Int32} (hF : B_X8_trims_127 N rec_46 rec_80 m x1 x3 x4 = some (r, m')) : AW K 0 127 [(0, q_r 70), (1, q_i x1), (3, q_i x3), (4, q_i x4)] [] m := by
  unfold B_X8_trims_127 at hF
  refine aw_iconst hK (0) rfl dX8_trims_127 ?_
  refine aw_sub [0, 1, 2, 3] (lv' := [(0, q_r 70), (1, q_i x1), (3, q_i x3), (4, q_i x4)]) rfl ?_
  exact bk_X8_trims_128 hK hR hrec_46 hrec_80 hF
def S_X8_trims_80 (N : Nat) (rec_46 : Mem → Int32 → Int32 → Int32 → Option (Int32 × Mem)) (rec_80 : Mem → Int32 → Int32 → Int32 → Int32 → Option (Int32 × Mem)) (m : Mem) (x1 : Int32) (x2 : Int32) (x3 : Int32) (x4 : Int32) : Option (Int32 × Mem) :=
  if x4 = (-1 : Int32) then (
    B_X8_trims_259 N rec_46 m x1 x2 x3
  ) else (
    if x2 = (0 : Int32) then (
      B_X8_trims_259 N rec_46 m x1 x2 x3
    ) else (
      gd (inb x4 (alen 80)) <|
      calv (F_X8_finds N m (P_X8_targetOf (m 80 (ix x4)))) fun m17 =>
      if (160 : Int32) ≤ (m17 70 26) then (
        B_X8_trims_127 N rec_46 rec_80 m17 x1 x3 x4
      ) else (
        if (32 : Int32) < (m17 70 20) then (
          B_X8_trims_127 N rec_46 rec_80 m17 x1 x3 x4
        ) else (
          B_X8_trims_128 N rec_46 rec_80 m17 x1 x3 x4 (1 : Int32)
        )
      )
    )
  )
def L_X8_trims_80 (N : Nat) (rec_46 : Mem → Int32 → Int32 → Int32 → Option (Int32 × Mem)) : Nat → Mem → Int32 → Int32 → Int32 → Int32 → Option (Int32 × Mem)
  | 0 => fun _ _ _ _ _ => none
  | f + 1 => S_X8_trims_80 N rec_46 (L_X8_trims_80 N rec_46 f)
set_option maxRecDepth 100000 in
set_option maxHeartbeats 4000000 in
theorem lp_X8_trims_80 {N : Nat} {K : KT} {m' : Mem} {rec_46 : Mem → Int32 → Int32 → Int32 → Option (Int32 × Mem)} {r : Int32} (hK : KOK K cX8_trims 5 RX8 wsX8_trims 2 0 46) (hR : KRet K (some .boolean) (some r) m') (hrec_46 : ∀ {m : Mem} {x1 : Int32} {x2 : Int32} {x3 : Int32}, rec_46 m x1 x2 x3 = some (r, m') → AW K 0 46 [(0, q_r 70), (1, q_i x1), (2, q_i x2), (3, q_i x3)] [] m) : ∀ (f : Nat) {m : Mem} {x1 : Int32} {x2 : Int32} {x3 : Int32} {x4 : Int32}, L_X8_trims_80 N rec_46 f m x1 x2 x3 x4 = some (r, m') → AW K 0 80 [(0, q_r 70), (1, q_i x1), (2, q_i x2), (3, q_i x3), (4, q_i x4)] [] m := by
  intro f
  induction f with
  | zero => intro m x1 x2 x3 x4 hF; cases hF
  | succ f hrec_80 =>
    intro m x1 x2 x3 x4 hF
    have hF : S_X8_trims_80 N rec_46 (L_X8_trims_80 N rec_46 f) m x1 x2 x3 x4 = some (r, m') := hF
    unfold S_X8_trims_80 at hF
    refine aw_iload hK 4 rfl dX8_trims_80 ?_
    refine aw_iconst hK (-1) rfl dX8_trims_82 ?_
    refine aw_icmp_eq hK 259 rfl dX8_trims_83 (fun hc => ?_) (fun hc => ?_)
    · have hF := if_t hF hc
      refine aw_sub [0, 1, 2, 3] (lv' := [(0, q_r 70), (1, q_i x1), (2, q_i x2), (3, q_i x3)]) rfl ?_
      exact bk_X8_trims_259 hK hR hrec_46 hF
    · have hF := if_f hF hc
      refine aw_iload_n hK 2 rfl dX8_trims_86 ?_
      refine aw_if_eq hK 259 rfl dX8_trims_87 (fun hc => ?_) (fun hc => ?_)
      · have hF := if_t hF hc
        refine aw_sub [0, 1, 2, 3] (lv' := [(0, q_r 70), (1, q_i x1), (2, q_i x2), (3, q_i x3)]) rfl ?_
        exact bk_X8_trims_259 hK hR hrec_46 hF
      · have hF := if_f hF hc
        refine aw_aload_n hK 0 rfl dX8_trims_90 ?_
        refine aw_aload_n hK 0 rfl dX8_trims_91 ?_
        refine gf_8_12 hK rfl (80) rfl (List.mem_of_getElem? (i := 6) rfl) dX8_trims_92 ?_
        refine aw_iload hK 4 rfl dX8_trims_95 ?_
        obtain ⟨g15, hF⟩ := gd_some hF
        refine aw_iald hK rfl g15 dX8_trims_97 ?_
        refine aw_cs hK (as := [q_i (m 80 (ix x4))]) (trp_X8_targetOf (m 80 (ix x4)) _) gX8_trims_X8_targetOf rfl (na := 1) (by decide +kernel) rfl ⟨by decide, by decide⟩ (Nat.zero_le _) (Nat.le_of_ble_eq_true rfl) dX8_trims_98 ?_
        obtain ⟨m17, h16, hF⟩ := calv_some hF
        refine aw_cv hK 8 (as := [q_i (P_X8_targetOf (m 80 (ix x4)))]) (tr_X8_finds h16) gX8_trims_X8_finds rfl rfl rfl (by decide) (na := 1) (by decide +kernel) rfl ⟨by decide, by decide⟩ (Nat.zero_le _) (Nat.le_of_ble_eq_true rfl) dX8_trims_101 ?_
        refine aw_aload_n hK 0 rfl dX8_trims_104 ?_
        refine gf_8_26 hK rfl (List.mem_of_getElem? (i := 3) rfl) dX8_trims_105 ?_
        refine aw_sipush hK (160) rfl dX8_trims_108 ?_
        refine aw_icmp_ge hK 127 rfl dX8_trims_111 (fun hc => ?_) (fun hc => ?_)
        · have hF := if_t hF hc
          refine aw_sub [0, 1, 3, 4] (lv' := [(0, q_r 70), (1, q_i x1), (3, q_i x3), (4, q_i x4)]) rfl ?_
          exact bk_X8_trims_127 hK hR hrec_46 hrec_80 hF
        · have hF := if_f hF hc
          refine aw_aload_n hK 0 rfl dX8_trims_114 ?_
          refine gf_8_20 hK rfl (List.mem_of_getElem? (i := 2) rfl) dX8_trims_115 ?_
          refine aw_bipush hK (32) rfl dX8_trims_118 ?_
          refine aw_icmp_gt hK 127 rfl dX8_trims_120 (fun hc => ?_) (fun hc => ?_)
          · have hF := if_t hF hc
            refine aw_sub [0, 1, 3, 4] (lv' := [(0, q_r 70), (1, q_i x1), (3, q_i x3), (4, q_i x4)]) rfl ?_
            exact bk_X8_trims_127 hK hR hrec_46 hrec_80 hF
          · have hF := if_f hF hc
            refine aw_iconst hK (1) rfl dX8_trims_123 ?_
            refine aw_goto hK 128 rfl dX8_trims_124 ?_
            refine aw_sub [0, 1, 3, 4] (lv' := [(0, q_r 70), (1, q_i x1), (3, q_i x3), (4, q_i x4)]) rfl ?_
            exact bk_X8_trims_128 hK hR hrec_46 hrec_80 hF
def S_X8_trims_46 (N : Nat) (rec_46 : Mem → Int32 → Int32 → Int32 → Option (Int32 × Mem)) (m : Mem) (x1 : Int32) (x2 : Int32) (x3 : Int32) : Option (Int32 × Mem) :=
  if (m 70 20) ≤ x3 then (
    B_X8_trims_265 N m x2
  ) else (
    if x2 = (0 : Int32) then (
      B_X8_trims_265 N m x2
    ) else (
      gd (inb x1 (alen 84)) <|
      if (m 84 (ix x1)) = (0 : Int32) then (
        B_X8_trims_265 N m x2
      ) else (
        gd (inb x3 (alen 86)) <|
        cal (F_X8_nextArc N m (m 86 (ix x3)) (-1 : Int32)) fun r14 m13 =>
        L_X8_trims_80 N rec_46 N m13 x1 x2 x3 r14
      )
    )
  )
def L_X8_trims_46 (N : Nat) : Nat → Mem → Int32 → Int32 → Int32 → Option (Int32 × Mem)
  | 0 => fun _ _ _ _ => none
  | f + 1 => S_X8_trims_46 N (L_X8_trims_46 N f)
set_option maxRecDepth 100000 in
set_option maxHeartbeats 4000000 in
theorem lp_X8_trims_46 {N : Nat} {K : KT} {m' : Mem} {r : Int32} (hK : KOK K cX8_trims 5 RX8 wsX8_trims 2 0 46) (hR : KRet K (some .boolean) (some r) m') : ∀ (f : Nat) {m : Mem} {x1 : Int32} {x2 : Int32} {x3 : Int32}, L_X8_trims_46 N f m x1 x2 x3 = some (r, m') → AW K 0 46 [(0, q_r 70), (1, q_i x1), (2, q_i x2), (3, q_i x3)] [] m := by
  intro f
  induction f with
  | zero => intro m x1 x2 x3 hF; cases hF
  | succ f hrec_46 =>
    intro m x1 x2 x3 hF
    have hF : S_X8_trims_46 N (L_X8_trims_46 N f) m x1 x2 x3 = some (r, m') := hF
    unfold S_X8_trims_46 at hF
    refine aw_iload_n hK 3 rfl dX8_trims_46 ?_
    refine aw_aload_n hK 0 rfl dX8_trims_47 ?_
    refine gf_8_20 hK rfl (List.mem_of_getElem? (i := 2) rfl) dX8_trims_48 ?_
    refine aw_icmp_ge hK 265 rfl dX8_trims_51 (fun hc => ?_) (fun hc => ?_)
    · have hF := if_t hF hc
      refine aw_sub [0, 2] (lv' := [(0, q_r 70), (2, q_i x2)]) rfl ?_
      exact bk_X8_trims_265 hK hR hF
    · have hF := if_f hF hc
      refine aw_iload_n hK 2 rfl dX8_trims_54 ?_
      refine aw_if_eq hK 265 rfl dX8_trims_55 (fun hc => ?_) (fun hc => ?_)
      · have hF := if_t hF hc
        refine aw_sub [0, 2] (lv' := [(0, q_r 70), (2, q_i x2)]) rfl ?_
        exact bk_X8_trims_265 hK hR hF
      · have hF := if_f hF hc
        refine aw_aload_n hK 0 rfl dX8_trims_58 ?_
        refine gf_8_17 hK rfl (84) rfl (List.mem_of_getElem? (i := 4) rfl) dX8_trims_59 ?_
        refine aw_iload_n hK 1 rfl dX8_trims_62 ?_
        obtain ⟨g10, hF⟩ := gd_some hF
        refine aw_zald hK rfl g10 dX8_trims_63 ?_
        refine aw_if_eq hK 265 rfl dX8_trims_64 (fun hc => ?_) (fun hc => ?_)
        · have hF := if_t hF hc
          refine aw_sub [0, 2] (lv' := [(0, q_r 70), (2, q_i x2)]) rfl ?_
          exact bk_X8_trims_265 hK hR hF
        · have hF := if_f hF hc
          refine aw_aload_n hK 0 rfl dX8_trims_67 ?_
          refine aw_aload_n hK 0 rfl dX8_trims_68 ?_
          refine gf_8_19 hK rfl (86) rfl (List.mem_of_getElem? (i := 5) rfl) dX8_trims_69 ?_
          refine aw_iload_n hK 3 rfl dX8_trims_72 ?_
          obtain ⟨g11, hF⟩ := gd_some hF
          refine aw_iald hK rfl g11 dX8_trims_73 ?_
          refine aw_iconst hK (-1) rfl dX8_trims_74 ?_
          obtain ⟨r14, m13, h12, hF⟩ := cal_some hF
          refine aw_cv hK 8 (as := [q_i (m 86 (ix x3)), q_i (-1 : Int32)]) (tr_X8_nextArc h12) gX8_trims_X8_nextArc rfl rfl rfl (by decide) (na := 2) (by decide +kernel) rfl ⟨by decide, by decide⟩ (Nat.zero_le _) (Nat.le_of_ble_eq_true rfl) dX8_trims_75 ?_
          refine aw_istore hK [(4, q_i r14), (0, q_r 70), (1, q_i x1), (2, q_i x2), (3, q_i x3)] (by decide) rfl dX8_trims_78 ?_
          refine aw_sub [1, 2, 3, 4, 0] (lv' := [(0, q_r 70), (1, q_i x1), (2, q_i x2), (3, q_i x3), (4, q_i r14)]) rfl ?_
          exact lp_X8_trims_80 hK hR hrec_46 _ hF
def S_X8_trims_7 (N : Nat) (rec_7 : Mem → Int32 → Int32 → Option (Int32 × Mem)) (m : Mem) (x1 : Int32) (x2 : Int32) : Option (Int32 × Mem) :=
  if (1024 : Int32) ≤ x2 then (
    bnd (mup m 70 20 (0 : Int32)) fun m3 =>
    bnd (mup m3 70 26 (0 : Int32)) fun m4 =>
    calv (F_X8_finds N m4 x1) fun m6 =>
    L_X8_trims_46 N N m6 x1 (1 : Int32) (0 : Int32)
  ) else (
    gd (inb x2 (alen 85)) <|
    bnd (mup m 85 (ix x2) (-1 : Int32)) fun m8 =>
    bnd (x2 + (1 : Int32)) fun y9 =>
    rec_7 m8 x1 y9
  )
def L_X8_trims_7 (N : Nat) : Nat → Mem → Int32 → Int32 → Option (Int32 × Mem)
  | 0 => fun _ _ _ => none
  | f + 1 => S_X8_trims_7 N (L_X8_trims_7 N f)
set_option maxRecDepth 100000 in
set_option maxHeartbeats 4000000 in
theorem lp_X8_trims_7 {N : Nat} {K : KT} {m' : Mem} {r : Int32} (hK : KOK K cX8_trims 5 RX8 wsX8_trims 2 0 46) (hR : KRet K (some .boolean) (some r) m') : ∀ (f : Nat) {m : Mem} {x1 : Int32} {x2 : Int32}, L_X8_trims_7 N f m x1 x2 = some (r, m') → AW K 0 7 [(0, q_r 70), (1, q_i x1), (2, q_i x2)] [] m := by
  intro f
  induction f with
  | zero => intro m x1 x2 hF; cases hF
  | succ f hrec_7 =>
    intro m x1 x2 hF
    have hF : S_X8_trims_7 N (L_X8_trims_7 N f) m x1 x2 = some (r, m') := hF
    unfold S_X8_trims_7 at hF
    refine aw_iload_n hK 2 rfl dX8_trims_7 ?_
    refine aw_sipush hK (1024) rfl dX8_trims_8 ?_
    refine aw_icmp_ge hK 27 rfl dX8_trims_11 (fun hc => ?_) (fun hc => ?_)
    · have hF := if_t hF hc
      refine aw_aload_n hK 0 rfl dX8_trims_27 ?_
      refine aw_iconst hK (0) rfl dX8_trims_28 ?_
      refine pf_8_20 hK rfl (List.mem_of_getElem? (i := 2) rfl) dX8_trims_29 ?_
      obtain ⟨m3, hm3, hF⟩ := bnd_some hF
      refine aw_mm hm3 ?_
      refine aw_aload_n hK 0 rfl dX8_trims_32 ?_
      refine aw_iconst hK (0) rfl dX8_trims_33 ?_
      refine pf_8_26 hK rfl (List.mem_of_getElem? (i := 3) rfl) dX8_trims_34 ?_
      obtain ⟨m4, hm4, hF⟩ := bnd_some hF
      refine aw_mm hm4 ?_
      refine aw_aload_n hK 0 rfl dX8_trims_37 ?_
      refine aw_iload_n hK 1 rfl dX8_trims_38 ?_
      obtain ⟨m6, h5, hF⟩ := calv_some hF
      refine aw_cv hK 8 (as := [q_i x1]) (tr_X8_finds h5) gX8_trims_X8_finds rfl rfl rfl (by decide) (na := 1) (by decide +kernel) rfl ⟨by decide, by decide⟩ (Nat.zero_le _) (Nat.le_of_ble_eq_true rfl) dX8_trims_39 ?_
      refine aw_iconst hK (1) rfl dX8_trims_42 ?_
      refine aw_istore_n hK [(2, q_i (1 : Int32)), (0, q_r 70), (1, q_i x1)] (by decide) rfl dX8_trims_43 ?_
      refine aw_iconst hK (0) rfl dX8_trims_44 ?_
      refine aw_istore_n hK [(3, q_i (0 : Int32)), (2, q_i (1 : Int32)), (0, q_r 70), (1, q_i x1)] (by decide) rfl dX8_trims_45 ?_
      refine aw_sub [2, 3, 1, 0] (lv' := [(0, q_r 70), (1, q_i x1), (2, q_i (1 : Int32)), (3, q_i (0 : Int32))]) rfl ?_
      exact lp_X8_trims_46 hK hR _ hF
    · have hF := if_f hF hc
      refine aw_aload_n hK 0 rfl dX8_trims_14 ?_
      refine gf_8_18 hK rfl (85) rfl (List.mem_of_getElem? (i := 1) rfl) dX8_trims_15 ?_
      refine aw_iload_n hK 2 rfl dX8_trims_18 ?_
      refine aw_iconst hK (-1) rfl dX8_trims_19 ?_
      obtain ⟨g7, hF⟩ := gd_some hF
      refine aw_iast hK rfl g7 dX8_trims_20 ?_
      obtain ⟨m8, hm8, hF⟩ := bnd_some hF
      refine aw_mm hm8 ?_
      obtain ⟨y9, hy9, hF⟩ := bnd_some hF
      refine aw_iinc hK (cz := 1) 2 [(2, q_i y9), (0, q_r 70), (1, q_i x1)] (by decide) rfl rfl hy9 rfl dX8_trims_21 ?_
      refine aw_goto hK 7 rfl dX8_trims_24 ?_
      refine aw_sub [1, 2, 0] (lv' := [(0, q_r 70), (1, q_i x1), (2, q_i y9)]) rfl ?_
      exact hrec_7 hF
def F_X8_trims (N : Nat) (m : Mem) (x1 : Int32) : Option (Int32 × Mem) :=
  calv (F_X8_reaches N m x1) fun m2 =>
  L_X8_trims_7 N N m2 x1 (0 : Int32)
set_option maxRecDepth 100000 in
set_option maxHeartbeats 4000000 in
theorem tr_X8_trims {N : Nat} {m m' : Mem} {r : Int32} {x1 : Int32} (hF : F_X8_trims N m x1 = some (r, m')) : Tr yX8_trims wsX8_trims 2 46 [q_r 70, q_i x1] m (some r) m' := by
  refine tr_of (bytes := cX8_trims) (maxL := 5) (ret := (some .boolean)) (by decide) rfl (Nat.le_of_ble_eq_true rfl) (fun K hK hR => ?_)
  have hK : KOK K cX8_trims 5 RX8 wsX8_trims 2 0 46 := hK
  show AW K 0 0 [(0, q_r 70), (1, q_i x1)] [] m
  unfold F_X8_trims at hF
  refine aw_aload_n hK 0 rfl dX8_trims_0 ?_
  refine aw_iload_n hK 1 rfl dX8_trims_1 ?_
  obtain ⟨m2, h1, hF⟩ := calv_some hF
  refine aw_cv hK 8 (as := [q_i x1]) (tr_X8_reaches h1) gX8_trims_X8_reaches rfl rfl rfl (by decide) (na := 1) (by decide +kernel) rfl ⟨by decide, by decide⟩ (Nat.zero_le _) (Nat.le_of_ble_eq_true rfl) dX8_trims_2 ?_
  refine aw_iconst hK (0) rfl dX8_trims_5 ?_
  refine aw_istore_n hK [(2, q_i (0 : Int32)), (0, q_r 70), (1, q_i x1)] (by decide) rfl dX8_trims_6 ?_
  refine aw_sub [1, 2, 0] (lv' := [(0, q_r 70), (1, q_i x1), (2, q_i (0 : Int32))]) rfl ?_
  exact lp_X8_trims_7 hK hR _ hF
