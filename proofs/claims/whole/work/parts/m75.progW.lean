def F_L_type (N : Nat) (m : Mem) (x1 : Int32) : Option (Int32 × Mem) :=
  calw (F_X7_type N m x1) (fun r3 m2 =>
    gd (inb (0 : Int32) (alen 108)) <|
    bnd (mup m2 108 (ix (0 : Int32)) (r3)) fun m6 =>
    some ((0 : Int32), m6)
  ) (fun x_4 m2 =>
  if x_4 = 0 then (
    some ((1 : Int32), m2)
  ) else (
  if x_4 = 1 then (
    some ((2 : Int32), m2)
  ) else (
  none)))
set_option maxRecDepth 100000 in
set_option maxHeartbeats 4000000 in
theorem trW_L_type {N : Nat} {m m' : Mem} {r : Int32} {x1 : Int32} (hF : F_L_type N m x1 = some (r, m')) : TrW yL_type wsL_type 7 111 1 [q_r 0, q_i x1, q_r 108] m r m' := by
  refine trW_of (bytes := cL_type) (maxL := 4) (ret := (some .int)) (hh := [(0, 9, 12, 13), (0, 9, 15, 15)]) (by decide) rfl (Nat.le_of_ble_eq_true rfl) (fun K hK hR => ?_)
  have hK : KOK K cL_type 4 RL wsL_type 7 1 111 := hK
  show AW K 0 0 [(0, q_r 0), (1, q_i x1), (2, q_r 108)] [] m
  unfold F_L_type at hF
  refine aw_aload_n hK 2 rfl dL_type_0 ?_
  refine aw_iconst hK (0) rfl dL_type_1 ?_
  refine aw_aload_n hK 0 rfl dL_type_2 ?_
  refine aw_iload_n hK 1 rfl dL_type_3 ?_
  rcases calw_some hF with ⟨r3, m2, h1, hF⟩ | ⟨x_4, m2, h1, hF⟩
  · refine aw_cvXr hK (kwb hR) 7 (as := [q_i x1]) (trX_X7_type h1) gL_type_X7_type rfl rfl rfl (by decide) (na := 1) (by decide +kernel) rfl ⟨by decide, by decide⟩ (Nat.le_of_ble_eq_true rfl) (Nat.le_of_ble_eq_true rfl) dL_type_4 ?_
    refine aw_i2l hK dL_type_7 ?_
    obtain ⟨g5, hF⟩ := gd_some hF
    refine aw_last hK rfl g5 dL_type_8 ?_
    obtain ⟨m6, hm6, hF⟩ := bnd_some hF
    refine aw_mm hm6 ?_
    refine aw_goto hK 18 rfl dL_type_9 ?_
    refine aw_iconst hK (0) rfl dL_type_18 ?_
    obtain ⟨rfl, rfl⟩ := so_inj hF
    exact aw_iretW hK hR (Nat.le_of_ble_eq_true rfl) dL_type_19
  · by_cases hx0 : x_4 = 0
    · have hF := if_t hF hx0
      subst hx0
      refine aw_cvWx hK hR 7 (as := [q_i x1]) (trX_X7_type h1) gL_type_X7_type rfl rfl rfl (by decide) (na := 1) (by decide +kernel) rfl ⟨by decide, by decide⟩ (Nat.le_of_ble_eq_true rfl) (Nat.le_of_ble_eq_true rfl) dL_type_4 (by decide) [] ⟨0, 9, 12, 13⟩ [⟨0, 9, 15, 15⟩] rfl (fun z hz => absurd hz List.not_mem_nil) (by decide) (by decide) (List.mem_of_getElem? (i := 1) rfl) (fun q => ?_)
      refine aw_astoreV_n hK [(3, q_v (.ref q)), (0, q_r 0), (1, q_i x1), (2, q_r 108)] (by decide) rfl dL_type_12 ?_
      refine aw_iconst hK (1) rfl dL_type_13 ?_
      obtain ⟨rfl, rfl⟩ := so_inj hF
      exact aw_iretW hK hR (Nat.le_of_ble_eq_true rfl) dL_type_14
    have hF := if_f hF hx0
    by_cases hx1 : x_4 = 1
    · have hF := if_t hF hx1
      subst hx1
      refine aw_cvWx hK hR 7 (as := [q_i x1]) (trX_X7_type h1) gL_type_X7_type rfl rfl rfl (by decide) (na := 1) (by decide +kernel) rfl ⟨by decide, by decide⟩ (Nat.le_of_ble_eq_true rfl) (Nat.le_of_ble_eq_true rfl) dL_type_4 (by decide) [⟨0, 9, 12, 13⟩] ⟨0, 9, 15, 15⟩ [] rfl (fun z hz => by rw [List.mem_singleton.mp hz]; exact Or.inr ⟨by decide, 0, by decide, by decide, (List.mem_of_getElem? (i := 1) rfl)⟩) (by decide) (by decide) (List.mem_of_getElem? (i := 2) rfl) (fun q => ?_)
      refine aw_astoreV_n hK [(3, q_v (.ref q)), (0, q_r 0), (1, q_i x1), (2, q_r 108)] (by decide) rfl dL_type_15 ?_
      refine aw_iconst hK (2) rfl dL_type_16 ?_
      obtain ⟨rfl, rfl⟩ := so_inj hF
      exact aw_iretW hK hR (Nat.le_of_ble_eq_true rfl) dL_type_17
    have hF := if_f hF hx1
    cases hF
def F_L_pair (N : Nat) (m : Mem) (x1 : Int32) (x2 : Int32) (x3 : Int32) : Option (Int32 × Mem) :=
  calw (F_X7_pair N m x1 x2 x3) (fun r3 m2 =>
    gd (inb (0 : Int32) (alen 108)) <|
    bnd (mup m2 108 (ix (0 : Int32)) (r3)) fun m6 =>
    some ((0 : Int32), m6)
  ) (fun x_4 m2 =>
  if x_4 = 0 then (
    some ((1 : Int32), m2)
  ) else (
  if x_4 = 1 then (
    some ((2 : Int32), m2)
  ) else (
  none)))
set_option maxRecDepth 100000 in
set_option maxHeartbeats 4000000 in
theorem trW_L_pair {N : Nat} {m m' : Mem} {r : Int32} {x1 : Int32} {x2 : Int32} {x3 : Int32} (hF : F_L_pair N m x1 x2 x3 = some (r, m')) : TrW yL_pair wsL_pair 8 137 1 [q_r 0, q_i x1, q_i x2, q_i x3, q_r 108] m r m' := by
  refine trW_of (bytes := cL_pair) (maxL := 6) (ret := (some .int)) (hh := [(0, 12, 15, 13), (0, 12, 19, 15)]) (by decide) rfl (Nat.le_of_ble_eq_true rfl) (fun K hK hR => ?_)
  have hK : KOK K cL_pair 6 RL wsL_pair 8 1 137 := hK
  show AW K 0 0 [(0, q_r 0), (1, q_i x1), (2, q_i x2), (3, q_i x3), (4, q_r 108)] [] m
  unfold F_L_pair at hF
  refine aw_aload hK 4 rfl dL_pair_0 ?_
  refine aw_iconst hK (0) rfl dL_pair_2 ?_
  refine aw_aload_n hK 0 rfl dL_pair_3 ?_
  refine aw_iload_n hK 1 rfl dL_pair_4 ?_
  refine aw_iload_n hK 2 rfl dL_pair_5 ?_
  refine aw_iload_n hK 3 rfl dL_pair_6 ?_
  rcases calw_some hF with ⟨r3, m2, h1, hF⟩ | ⟨x_4, m2, h1, hF⟩
  · refine aw_cvXr hK (kwb hR) 7 (as := [q_i x1, q_i x2, q_i x3]) (trX_X7_pair h1) gL_pair_X7_pair rfl rfl rfl (by decide) (na := 3) (by decide +kernel) rfl ⟨by decide, by decide⟩ (Nat.le_of_ble_eq_true rfl) (Nat.le_of_ble_eq_true rfl) dL_pair_7 ?_
    refine aw_i2l hK dL_pair_10 ?_
    obtain ⟨g5, hF⟩ := gd_some hF
    refine aw_last hK rfl g5 dL_pair_11 ?_
    obtain ⟨m6, hm6, hF⟩ := bnd_some hF
    refine aw_mm hm6 ?_
    refine aw_goto hK 23 rfl dL_pair_12 ?_
    refine aw_iconst hK (0) rfl dL_pair_23 ?_
    obtain ⟨rfl, rfl⟩ := so_inj hF
    exact aw_iretW hK hR (Nat.le_of_ble_eq_true rfl) dL_pair_24
  · by_cases hx0 : x_4 = 0
    · have hF := if_t hF hx0
      subst hx0
      refine aw_cvWx hK hR 7 (as := [q_i x1, q_i x2, q_i x3]) (trX_X7_pair h1) gL_pair_X7_pair rfl rfl rfl (by decide) (na := 3) (by decide +kernel) rfl ⟨by decide, by decide⟩ (Nat.le_of_ble_eq_true rfl) (Nat.le_of_ble_eq_true rfl) dL_pair_7 (by decide) [] ⟨0, 12, 15, 13⟩ [⟨0, 12, 19, 15⟩] rfl (fun z hz => absurd hz List.not_mem_nil) (by decide) (by decide) (List.mem_of_getElem? (i := 1) rfl) (fun q => ?_)
      refine aw_astoreV hK [(5, q_v (.ref q)), (0, q_r 0), (1, q_i x1), (2, q_i x2), (3, q_i x3), (4, q_r 108)] (by decide) rfl dL_pair_15 ?_
      refine aw_iconst hK (1) rfl dL_pair_17 ?_
      obtain ⟨rfl, rfl⟩ := so_inj hF
      exact aw_iretW hK hR (Nat.le_of_ble_eq_true rfl) dL_pair_18
    have hF := if_f hF hx0
    by_cases hx1 : x_4 = 1
    · have hF := if_t hF hx1
      subst hx1
      refine aw_cvWx hK hR 7 (as := [q_i x1, q_i x2, q_i x3]) (trX_X7_pair h1) gL_pair_X7_pair rfl rfl rfl (by decide) (na := 3) (by decide +kernel) rfl ⟨by decide, by decide⟩ (Nat.le_of_ble_eq_true rfl) (Nat.le_of_ble_eq_true rfl) dL_pair_7 (by decide) [⟨0, 12, 15, 13⟩] ⟨0, 12, 19, 15⟩ [] rfl (fun z hz => by rw [List.mem_singleton.mp hz]; exact Or.inr ⟨by decide, 0, by decide, by decide, (List.mem_of_getElem? (i := 1) rfl)⟩) (by decide) (by decide) (List.mem_of_getElem? (i := 2) rfl) (fun q => ?_)
      refine aw_astoreV hK [(5, q_v (.ref q)), (0, q_r 0), (1, q_i x1), (2, q_i x2), (3, q_i x3), (4, q_r 108)] (by decide) rfl dL_pair_19 ?_
      refine aw_iconst hK (2) rfl dL_pair_21 ?_
      obtain ⟨rfl, rfl⟩ := so_inj hF
      exact aw_iretW hK hR (Nat.le_of_ble_eq_true rfl) dL_pair_22
    have hF := if_f hF hx1
    cases hF
def F_L_word (N : Nat) (m : Mem) : Option (Int32 × Mem) :=
  calw (F_X7_word N m) (fun r3 m2 =>
    gd (inb (0 : Int32) (alen 108)) <|
    bnd (mup m2 108 (ix (0 : Int32)) (r3)) fun m6 =>
    some ((0 : Int32), m6)
  ) (fun x_4 m2 =>
  if x_4 = 1 then (
    some ((1 : Int32), m2)
  ) else (
  none))
set_option maxRecDepth 100000 in
set_option maxHeartbeats 4000000 in
theorem trW_L_word {N : Nat} {m m' : Mem} {r : Int32} (hF : F_L_word N m = some (r, m')) : TrW yL_word wsL_word 8 135 1 [q_r 0, q_r 108] m r m' := by
  refine trW_of (bytes := cL_word) (maxL := 3) (ret := (some .int)) (hh := [(0, 8, 11, 15)]) (by decide) rfl (Nat.le_of_ble_eq_true rfl) (fun K hK hR => ?_)
  have hK : KOK K cL_word 3 RL wsL_word 8 1 135 := hK
  show AW K 0 0 [(0, q_r 0), (1, q_r 108)] [] m
  unfold F_L_word at hF
  refine aw_aload_n hK 1 rfl dL_word_0 ?_
  refine aw_iconst hK (0) rfl dL_word_1 ?_
  refine aw_aload_n hK 0 rfl dL_word_2 ?_
  rcases calw_some hF with ⟨r3, m2, h1, hF⟩ | ⟨x_4, m2, h1, hF⟩
  · refine aw_cvXr hK (kwb hR) 7 (as := []) (trX_X7_word h1) gL_word_X7_word rfl rfl rfl (by decide) (na := 0) (by decide +kernel) rfl ⟨by decide, by decide⟩ (Nat.le_of_ble_eq_true rfl) (Nat.le_of_ble_eq_true rfl) dL_word_3 ?_
    refine aw_i2l hK dL_word_6 ?_
    obtain ⟨g5, hF⟩ := gd_some hF
    refine aw_last hK rfl g5 dL_word_7 ?_
    obtain ⟨m6, hm6, hF⟩ := bnd_some hF
    refine aw_mm hm6 ?_
    refine aw_goto hK 14 rfl dL_word_8 ?_
    refine aw_iconst hK (0) rfl dL_word_14 ?_
    obtain ⟨rfl, rfl⟩ := so_inj hF
    exact aw_iretW hK hR (Nat.le_of_ble_eq_true rfl) dL_word_15
  · by_cases hx0 : x_4 = 1
    · have hF := if_t hF hx0
      subst hx0
      refine aw_cvWx hK hR 7 (as := []) (trX_X7_word h1) gL_word_X7_word rfl rfl rfl (by decide) (na := 0) (by decide +kernel) rfl ⟨by decide, by decide⟩ (Nat.le_of_ble_eq_true rfl) (Nat.le_of_ble_eq_true rfl) dL_word_3 (by decide) [] ⟨0, 8, 11, 15⟩ [] rfl (fun z hz => absurd hz List.not_mem_nil) (by decide) (by decide) (List.mem_of_getElem? (i := 1) rfl) (fun q => ?_)
      refine aw_astoreV_n hK [(2, q_v (.ref q)), (0, q_r 0), (1, q_r 108)] (by decide) rfl dL_word_11 ?_
      refine aw_iconst hK (1) rfl dL_word_12 ?_
      obtain ⟨rfl, rfl⟩ := so_inj hF
      exact aw_iretW hK hR (Nat.le_of_ble_eq_true rfl) dL_word_13
    have hF := if_f hF hx0
    cases hF
def F_L_any (N : Nat) (m : Mem) : Option (Int32 × Mem) :=
  calw (F_X7_any N m) (fun r3 m2 =>
    gd (inb (0 : Int32) (alen 108)) <|
    bnd (mup m2 108 (ix (0 : Int32)) (r3)) fun m6 =>
    some ((0 : Int32), m6)
  ) (fun x_4 m2 =>
  if x_4 = 1 then (
    some ((1 : Int32), m2)
  ) else (
  none))
set_option maxRecDepth 100000 in
set_option maxHeartbeats 4000000 in
theorem trW_L_any {N : Nat} {m m' : Mem} {r : Int32} (hF : F_L_any N m = some (r, m')) : TrW yL_any wsL_any 8 135 1 [q_r 0, q_r 108] m r m' := by
  refine trW_of (bytes := cL_any) (maxL := 3) (ret := (some .int)) (hh := [(0, 8, 11, 15)]) (by decide) rfl (Nat.le_of_ble_eq_true rfl) (fun K hK hR => ?_)
  have hK : KOK K cL_any 3 RL wsL_any 8 1 135 := hK
  show AW K 0 0 [(0, q_r 0), (1, q_r 108)] [] m
  unfold F_L_any at hF
  refine aw_aload_n hK 1 rfl dL_any_0 ?_
  refine aw_iconst hK (0) rfl dL_any_1 ?_
  refine aw_aload_n hK 0 rfl dL_any_2 ?_
  rcases calw_some hF with ⟨r3, m2, h1, hF⟩ | ⟨x_4, m2, h1, hF⟩
  · refine aw_cvXr hK (kwb hR) 7 (as := []) (trX_X7_any h1) gL_any_X7_any rfl rfl rfl (by decide) (na := 0) (by decide +kernel) rfl ⟨by decide, by decide⟩ (Nat.le_of_ble_eq_true rfl) (Nat.le_of_ble_eq_true rfl) dL_any_3 ?_
    refine aw_i2l hK dL_any_6 ?_
    obtain ⟨g5, hF⟩ := gd_some hF
    refine aw_last hK rfl g5 dL_any_7 ?_
    obtain ⟨m6, hm6, hF⟩ := bnd_some hF
    refine aw_mm hm6 ?_
    refine aw_goto hK 14 rfl dL_any_8 ?_
    refine aw_iconst hK (0) rfl dL_any_14 ?_
    obtain ⟨rfl, rfl⟩ := so_inj hF
    exact aw_iretW hK hR (Nat.le_of_ble_eq_true rfl) dL_any_15
  · by_cases hx0 : x_4 = 1
    · have hF := if_t hF hx0
      subst hx0
      refine aw_cvWx hK hR 7 (as := []) (trX_X7_any h1) gL_any_X7_any rfl rfl rfl (by decide) (na := 0) (by decide +kernel) rfl ⟨by decide, by decide⟩ (Nat.le_of_ble_eq_true rfl) (Nat.le_of_ble_eq_true rfl) dL_any_3 (by decide) [] ⟨0, 8, 11, 15⟩ [] rfl (fun z hz => absurd hz List.not_mem_nil) (by decide) (by decide) (List.mem_of_getElem? (i := 1) rfl) (fun q => ?_)
      refine aw_astoreV_n hK [(2, q_v (.ref q)), (0, q_r 0), (1, q_r 108)] (by decide) rfl dL_any_11 ?_
      refine aw_iconst hK (1) rfl dL_any_12 ?_
      obtain ⟨rfl, rfl⟩ := so_inj hF
      exact aw_iretW hK hR (Nat.le_of_ble_eq_true rfl) dL_any_13
    have hF := if_f hF hx0
    cases hF
def F_L_join (N : Nat) (m : Mem) (x1 : Int32) (x2 : Int32) : Option (Int32 × Mem) :=
  calw (F_X7_join N m x1 x2) (fun r3 m2 =>
    gd (inb (0 : Int32) (alen 108)) <|
    bnd (mup m2 108 (ix (0 : Int32)) (r3)) fun m6 =>
    some ((0 : Int32), m6)
  ) (fun x_4 m2 =>
  if x_4 = 2 then (
    some ((1 : Int32), m2)
  ) else (
  if x_4 = 1 then (
    some ((2 : Int32), m2)
  ) else (
  none)))
set_option maxRecDepth 100000 in
set_option maxHeartbeats 4000000 in
theorem trW_L_join {N : Nat} {m m' : Mem} {r : Int32} {x1 : Int32} {x2 : Int32} (hF : F_L_join N m x1 x2 = some (r, m')) : TrW yL_join wsL_join 8 138 3 [q_r 0, q_i x1, q_i x2, q_r 108] m r m' := by
  refine trW_of (bytes := cL_join) (maxL := 5) (ret := (some .int)) (hh := [(0, 10, 13, 32), (0, 10, 17, 15)]) (by decide) rfl (Nat.le_of_ble_eq_true rfl) (fun K hK hR => ?_)
  have hK : KOK K cL_join 5 RL wsL_join 8 3 138 := hK
  show AW K 0 0 [(0, q_r 0), (1, q_i x1), (2, q_i x2), (3, q_r 108)] [] m
  unfold F_L_join at hF
  refine aw_aload_n hK 3 rfl dL_join_0 ?_
  refine aw_iconst hK (0) rfl dL_join_1 ?_
  refine aw_aload_n hK 0 rfl dL_join_2 ?_
  refine aw_iload_n hK 1 rfl dL_join_3 ?_
  refine aw_iload_n hK 2 rfl dL_join_4 ?_
  rcases calw_some hF with ⟨r3, m2, h1, hF⟩ | ⟨x_4, m2, h1, hF⟩
  · refine aw_cvXr hK (kwb hR) 7 (as := [q_i x1, q_i x2]) (trX_X7_join h1) gL_join_X7_join rfl rfl rfl (by decide) (na := 2) (by decide +kernel) rfl ⟨by decide, by decide⟩ (Nat.le_of_ble_eq_true rfl) (Nat.le_of_ble_eq_true rfl) dL_join_5 ?_
    refine aw_i2l hK dL_join_8 ?_
    obtain ⟨g5, hF⟩ := gd_some hF
    refine aw_last hK rfl g5 dL_join_9 ?_
    obtain ⟨m6, hm6, hF⟩ := bnd_some hF
    refine aw_mm hm6 ?_
    refine aw_goto hK 21 rfl dL_join_10 ?_
    refine aw_iconst hK (0) rfl dL_join_21 ?_
    obtain ⟨rfl, rfl⟩ := so_inj hF
    exact aw_iretW hK hR (Nat.le_of_ble_eq_true rfl) dL_join_22
  · by_cases hx0 : x_4 = 2
    · have hF := if_t hF hx0
      subst hx0
      refine aw_cvWx hK hR 7 (as := [q_i x1, q_i x2]) (trX_X7_join h1) gL_join_X7_join rfl rfl rfl (by decide) (na := 2) (by decide +kernel) rfl ⟨by decide, by decide⟩ (Nat.le_of_ble_eq_true rfl) (Nat.le_of_ble_eq_true rfl) dL_join_5 (by decide) [] ⟨0, 10, 13, 32⟩ [⟨0, 10, 17, 15⟩] rfl (fun z hz => absurd hz List.not_mem_nil) (by decide) (by decide) (List.mem_of_getElem? (i := 1) rfl) (fun q => ?_)
      refine aw_astoreV hK [(4, q_v (.ref q)), (0, q_r 0), (1, q_i x1), (2, q_i x2), (3, q_r 108)] (by decide) rfl dL_join_13 ?_
      refine aw_iconst hK (1) rfl dL_join_15 ?_
      obtain ⟨rfl, rfl⟩ := so_inj hF
      exact aw_iretW hK hR (Nat.le_of_ble_eq_true rfl) dL_join_16
    have hF := if_f hF hx0
    by_cases hx1 : x_4 = 1
    · have hF := if_t hF hx1
      subst hx1
      refine aw_cvWx hK hR 7 (as := [q_i x1, q_i x2]) (trX_X7_join h1) gL_join_X7_join rfl rfl rfl (by decide) (na := 2) (by decide +kernel) rfl ⟨by decide, by decide⟩ (Nat.le_of_ble_eq_true rfl) (Nat.le_of_ble_eq_true rfl) dL_join_5 (by decide) [⟨0, 10, 13, 32⟩] ⟨0, 10, 17, 15⟩ [] rfl (fun z hz => by rw [List.mem_singleton.mp hz]; exact Or.inr ⟨by decide, 2, by decide, by decide, (List.mem_of_getElem? (i := 1) rfl)⟩) (by decide) (by decide) (List.mem_of_getElem? (i := 2) rfl) (fun q => ?_)
      refine aw_astoreV hK [(4, q_v (.ref q)), (0, q_r 0), (1, q_i x1), (2, q_i x2), (3, q_r 108)] (by decide) rfl dL_join_17 ?_
      refine aw_iconst hK (2) rfl dL_join_19 ?_
      obtain ⟨rfl, rfl⟩ := so_inj hF
      exact aw_iretW hK hR (Nat.le_of_ble_eq_true rfl) dL_join_20
    have hF := if_f hF hx1
    cases hF
def F_L_unite (N : Nat) (m : Mem) (x1 : Int32) (x2 : Int32) : Option (Int32 × Mem) :=
  calw (F_X7_unite N m x1 x2) (fun r3 m2 =>
    gd (inb (0 : Int32) (alen 108)) <|
    bnd (mup m2 108 (ix (0 : Int32)) (r3)) fun m6 =>
    some ((0 : Int32), m6)
  ) (fun x_4 m2 =>
  if x_4 = 2 then (
    some ((1 : Int32), m2)
  ) else (
  if x_4 = 1 then (
    some ((2 : Int32), m2)
  ) else (
  none)))
set_option maxRecDepth 100000 in
set_option maxHeartbeats 4000000 in
theorem trW_L_unite {N : Nat} {m m' : Mem} {r : Int32} {x1 : Int32} {x2 : Int32} (hF : F_L_unite N m x1 x2 = some (r, m')) : TrW yL_unite wsL_unite 8 139 3 [q_r 0, q_i x1, q_i x2, q_r 108] m r m' := by
  refine trW_of (bytes := cL_unite) (maxL := 5) (ret := (some .int)) (hh := [(0, 10, 13, 32), (0, 10, 17, 15)]) (by decide) rfl (Nat.le_of_ble_eq_true rfl) (fun K hK hR => ?_)
  have hK : KOK K cL_unite 5 RL wsL_unite 8 3 139 := hK
  show AW K 0 0 [(0, q_r 0), (1, q_i x1), (2, q_i x2), (3, q_r 108)] [] m
  unfold F_L_unite at hF
  refine aw_aload_n hK 3 rfl dL_unite_0 ?_
  refine aw_iconst hK (0) rfl dL_unite_1 ?_
  refine aw_aload_n hK 0 rfl dL_unite_2 ?_
  refine aw_iload_n hK 1 rfl dL_unite_3 ?_
  refine aw_iload_n hK 2 rfl dL_unite_4 ?_
  rcases calw_some hF with ⟨r3, m2, h1, hF⟩ | ⟨x_4, m2, h1, hF⟩
  · refine aw_cvXr hK (kwb hR) 7 (as := [q_i x1, q_i x2]) (trX_X7_unite h1) gL_unite_X7_unite rfl rfl rfl (by decide) (na := 2) (by decide +kernel) rfl ⟨by decide, by decide⟩ (Nat.le_of_ble_eq_true rfl) (Nat.le_of_ble_eq_true rfl) dL_unite_5 ?_
    refine aw_i2l hK dL_unite_8 ?_
    obtain ⟨g5, hF⟩ := gd_some hF
    refine aw_last hK rfl g5 dL_unite_9 ?_
    obtain ⟨m6, hm6, hF⟩ := bnd_some hF
    refine aw_mm hm6 ?_
    refine aw_goto hK 21 rfl dL_unite_10 ?_
    refine aw_iconst hK (0) rfl dL_unite_21 ?_
    obtain ⟨rfl, rfl⟩ := so_inj hF
    exact aw_iretW hK hR (Nat.le_of_ble_eq_true rfl) dL_unite_22
  · by_cases hx0 : x_4 = 2
    · have hF := if_t hF hx0
      subst hx0
      refine aw_cvWx hK hR 7 (as := [q_i x1, q_i x2]) (trX_X7_unite h1) gL_unite_X7_unite rfl rfl rfl (by decide) (na := 2) (by decide +kernel) rfl ⟨by decide, by decide⟩ (Nat.le_of_ble_eq_true rfl) (Nat.le_of_ble_eq_true rfl) dL_unite_5 (by decide) [] ⟨0, 10, 13, 32⟩ [⟨0, 10, 17, 15⟩] rfl (fun z hz => absurd hz List.not_mem_nil) (by decide) (by decide) (List.mem_of_getElem? (i := 1) rfl) (fun q => ?_)
      refine aw_astoreV hK [(4, q_v (.ref q)), (0, q_r 0), (1, q_i x1), (2, q_i x2), (3, q_r 108)] (by decide) rfl dL_unite_13 ?_
      refine aw_iconst hK (1) rfl dL_unite_15 ?_
      obtain ⟨rfl, rfl⟩ := so_inj hF
      exact aw_iretW hK hR (Nat.le_of_ble_eq_true rfl) dL_unite_16
    have hF := if_f hF hx0
    by_cases hx1 : x_4 = 1
    · have hF := if_t hF hx1
      subst hx1
      refine aw_cvWx hK hR 7 (as := [q_i x1, q_i x2]) (trX_X7_unite h1) gL_unite_X7_unite rfl rfl rfl (by decide) (na := 2) (by decide +kernel) rfl ⟨by decide, by decide⟩ (Nat.le_of_ble_eq_true rfl) (Nat.le_of_ble_eq_true rfl) dL_unite_5 (by decide) [⟨0, 10, 13, 32⟩] ⟨0, 10, 17, 15⟩ [] rfl (fun z hz => by rw [List.mem_singleton.mp hz]; exact Or.inr ⟨by decide, 2, by decide, by decide, (List.mem_of_getElem? (i := 1) rfl)⟩) (by decide) (by decide) (List.mem_of_getElem? (i := 2) rfl) (fun q => ?_)
      refine aw_astoreV hK [(4, q_v (.ref q)), (0, q_r 0), (1, q_i x1), (2, q_i x2), (3, q_r 108)] (by decide) rfl dL_unite_17 ?_
      refine aw_iconst hK (2) rfl dL_unite_19 ?_
      obtain ⟨rfl, rfl⟩ := so_inj hF
      exact aw_iretW hK hR (Nat.le_of_ble_eq_true rfl) dL_unite_20
    have hF := if_f hF hx1
    cases hF
def F_L_repeat (N : Nat) (m : Mem) (x1 : Int32) : Option (Int32 × Mem) :=
  calw (F_X7_repeat N m x1) (fun r3 m2 =>
    gd (inb (0 : Int32) (alen 108)) <|
    bnd (mup m2 108 (ix (0 : Int32)) (r3)) fun m6 =>
    some ((0 : Int32), m6)
  ) (fun x_4 m2 =>
  if x_4 = 2 then (
    some ((1 : Int32), m2)
  ) else (
  if x_4 = 1 then (
    some ((2 : Int32), m2)
  ) else (
  none)))
set_option maxRecDepth 100000 in
set_option maxHeartbeats 4000000 in
theorem trW_L_repeat {N : Nat} {m m' : Mem} {r : Int32} {x1 : Int32} (hF : F_L_repeat N m x1 = some (r, m')) : TrW yL_repeat wsL_repeat 8 137 2 [q_r 0, q_i x1, q_r 108] m r m' := by
  refine trW_of (bytes := cL_repeat) (maxL := 4) (ret := (some .int)) (hh := [(0, 9, 12, 32), (0, 9, 15, 15)]) (by decide) rfl (Nat.le_of_ble_eq_true rfl) (fun K hK hR => ?_)
  have hK : KOK K cL_repeat 4 RL wsL_repeat 8 2 137 := hK
  show AW K 0 0 [(0, q_r 0), (1, q_i x1), (2, q_r 108)] [] m
  unfold F_L_repeat at hF
  refine aw_aload_n hK 2 rfl dL_repeat_0 ?_
  refine aw_iconst hK (0) rfl dL_repeat_1 ?_
  refine aw_aload_n hK 0 rfl dL_repeat_2 ?_
  refine aw_iload_n hK 1 rfl dL_repeat_3 ?_
  rcases calw_some hF with ⟨r3, m2, h1, hF⟩ | ⟨x_4, m2, h1, hF⟩
  · refine aw_cvXr hK (kwb hR) 7 (as := [q_i x1]) (trX_X7_repeat h1) gL_repeat_X7_repeat rfl rfl rfl (by decide) (na := 1) (by decide +kernel) rfl ⟨by decide, by decide⟩ (Nat.le_of_ble_eq_true rfl) (Nat.le_of_ble_eq_true rfl) dL_repeat_4 ?_
    refine aw_i2l hK dL_repeat_7 ?_
    obtain ⟨g5, hF⟩ := gd_some hF
    refine aw_last hK rfl g5 dL_repeat_8 ?_
    obtain ⟨m6, hm6, hF⟩ := bnd_some hF
    refine aw_mm hm6 ?_
    refine aw_goto hK 18 rfl dL_repeat_9 ?_
    refine aw_iconst hK (0) rfl dL_repeat_18 ?_
    obtain ⟨rfl, rfl⟩ := so_inj hF
    exact aw_iretW hK hR (Nat.le_of_ble_eq_true rfl) dL_repeat_19
  · by_cases hx0 : x_4 = 2
    · have hF := if_t hF hx0
      subst hx0
      refine aw_cvWx hK hR 7 (as := [q_i x1]) (trX_X7_repeat h1) gL_repeat_X7_repeat rfl rfl rfl (by decide) (na := 1) (by decide +kernel) rfl ⟨by decide, by decide⟩ (Nat.le_of_ble_eq_true rfl) (Nat.le_of_ble_eq_true rfl) dL_repeat_4 (by decide) [] ⟨0, 9, 12, 32⟩ [⟨0, 9, 15, 15⟩] rfl (fun z hz => absurd hz List.not_mem_nil) (by decide) (by decide) (List.mem_of_getElem? (i := 1) rfl) (fun q => ?_)
      refine aw_astoreV_n hK [(3, q_v (.ref q)), (0, q_r 0), (1, q_i x1), (2, q_r 108)] (by decide) rfl dL_repeat_12 ?_
      refine aw_iconst hK (1) rfl dL_repeat_13 ?_
      obtain ⟨rfl, rfl⟩ := so_inj hF
      exact aw_iretW hK hR (Nat.le_of_ble_eq_true rfl) dL_repeat_14
    have hF := if_f hF hx0
    by_cases hx1 : x_4 = 1
    · have hF := if_t hF hx1
      subst hx1
      refine aw_cvWx hK hR 7 (as := [q_i x1]) (trX_X7_repeat h1) gL_repeat_X7_repeat rfl rfl rfl (by decide) (na := 1) (by decide +kernel) rfl ⟨by decide, by decide⟩ (Nat.le_of_ble_eq_true rfl) (Nat.le_of_ble_eq_true rfl) dL_repeat_4 (by decide) [⟨0, 9, 12, 32⟩] ⟨0, 9, 15, 15⟩ [] rfl (fun z hz => by rw [List.mem_singleton.mp hz]; exact Or.inr ⟨by decide, 2, by decide, by decide, (List.mem_of_getElem? (i := 1) rfl)⟩) (by decide) (by decide) (List.mem_of_getElem? (i := 2) rfl) (fun q => ?_)
      refine aw_astoreV_n hK [(3, q_v (.ref q)), (0, q_r 0), (1, q_i x1), (2, q_r 108)] (by decide) rfl dL_repeat_15 ?_
      refine aw_iconst hK (2) rfl dL_repeat_16 ?_
      obtain ⟨rfl, rfl⟩ := so_inj hF
      exact aw_iretW hK hR (Nat.le_of_ble_eq_true rfl) dL_repeat_17
    have hF := if_f hF hx1
    cases hF
def F_L_turn (N : Nat) (m : Mem) (x1 : Int32) : Option (Int32 × Mem) :=
  calw (F_X7_turn N m x1) (fun r3 m2 =>
    gd (inb (0 : Int32) (alen 108)) <|
    bnd (mup m2 108 (ix (0 : Int32)) (r3)) fun m6 =>
    some ((0 : Int32), m6)
  ) (fun x_4 m2 =>
  if x_4 = 2 then (
    some ((1 : Int32), m2)
  ) else (
  if x_4 = 1 then (
    some ((2 : Int32), m2)
  ) else (
  none)))
set_option maxRecDepth 100000 in
set_option maxHeartbeats 4000000 in
theorem trW_L_turn {N : Nat} {m m' : Mem} {r : Int32} {x1 : Int32} (hF : F_L_turn N m x1 = some (r, m')) : TrW yL_turn wsL_turn 8 138 2 [q_r 0, q_i x1, q_r 108] m r m' := by
  refine trW_of (bytes := cL_turn) (maxL := 4) (ret := (some .int)) (hh := [(0, 9, 12, 32), (0, 9, 15, 15)]) (by decide) rfl (Nat.le_of_ble_eq_true rfl) (fun K hK hR => ?_)
  have hK : KOK K cL_turn 4 RL wsL_turn 8 2 138 := hK
  show AW K 0 0 [(0, q_r 0), (1, q_i x1), (2, q_r 108)] [] m
  unfold F_L_turn at hF
  refine aw_aload_n hK 2 rfl dL_turn_0 ?_
  refine aw_iconst hK (0) rfl dL_turn_1 ?_
  refine aw_aload_n hK 0 rfl dL_turn_2 ?_
  refine aw_iload_n hK 1 rfl dL_turn_3 ?_
  rcases calw_some hF with ⟨r3, m2, h1, hF⟩ | ⟨x_4, m2, h1, hF⟩
  · refine aw_cvXr hK (kwb hR) 7 (as := [q_i x1]) (trX_X7_turn h1) gL_turn_X7_turn rfl rfl rfl (by decide) (na := 1) (by decide +kernel) rfl ⟨by decide, by decide⟩ (Nat.le_of_ble_eq_true rfl) (Nat.le_of_ble_eq_true rfl) dL_turn_4 ?_
    refine aw_i2l hK dL_turn_7 ?_
    obtain ⟨g5, hF⟩ := gd_some hF
    refine aw_last hK rfl g5 dL_turn_8 ?_
    obtain ⟨m6, hm6, hF⟩ := bnd_some hF
    refine aw_mm hm6 ?_
    refine aw_goto hK 18 rfl dL_turn_9 ?_
    refine aw_iconst hK (0) rfl dL_turn_18 ?_
    obtain ⟨rfl, rfl⟩ := so_inj hF
    exact aw_iretW hK hR (Nat.le_of_ble_eq_true rfl) dL_turn_19
  · by_cases hx0 : x_4 = 2
    · have hF := if_t hF hx0
      subst hx0
      refine aw_cvWx hK hR 7 (as := [q_i x1]) (trX_X7_turn h1) gL_turn_X7_turn rfl rfl rfl (by decide) (na := 1) (by decide +kernel) rfl ⟨by decide, by decide⟩ (Nat.le_of_ble_eq_true rfl) (Nat.le_of_ble_eq_true rfl) dL_turn_4 (by decide) [] ⟨0, 9, 12, 32⟩ [⟨0, 9, 15, 15⟩] rfl (fun z hz => absurd hz List.not_mem_nil) (by decide) (by decide) (List.mem_of_getElem? (i := 1) rfl) (fun q => ?_)
      refine aw_astoreV_n hK [(3, q_v (.ref q)), (0, q_r 0), (1, q_i x1), (2, q_r 108)] (by decide) rfl dL_turn_12 ?_
      refine aw_iconst hK (1) rfl dL_turn_13 ?_
      obtain ⟨rfl, rfl⟩ := so_inj hF
      exact aw_iretW hK hR (Nat.le_of_ble_eq_true rfl) dL_turn_14
    have hF := if_f hF hx0
    by_cases hx1 : x_4 = 1
    · have hF := if_t hF hx1
      subst hx1
      refine aw_cvWx hK hR 7 (as := [q_i x1]) (trX_X7_turn h1) gL_turn_X7_turn rfl rfl rfl (by decide) (na := 1) (by decide +kernel) rfl ⟨by decide, by decide⟩ (Nat.le_of_ble_eq_true rfl) (Nat.le_of_ble_eq_true rfl) dL_turn_4 (by decide) [⟨0, 9, 12, 32⟩] ⟨0, 9, 15, 15⟩ [] rfl (fun z hz => by rw [List.mem_singleton.mp hz]; exact Or.inr ⟨by decide, 2, by decide, by decide, (List.mem_of_getElem? (i := 1) rfl)⟩) (by decide) (by decide) (List.mem_of_getElem? (i := 2) rfl) (fun q => ?_)
      refine aw_astoreV_n hK [(3, q_v (.ref q)), (0, q_r 0), (1, q_i x1), (2, q_r 108)] (by decide) rfl dL_turn_15 ?_
      refine aw_iconst hK (2) rfl dL_turn_16 ?_
      obtain ⟨rfl, rfl⟩ := so_inj hF
      exact aw_iretW hK hR (Nat.le_of_ble_eq_true rfl) dL_turn_17
    have hF := if_f hF hx1
    cases hF
def F_L_compose (N : Nat) (m : Mem) (x1 : Int32) (x2 : Int32) : Option (Int32 × Mem) :=
  calw (F_X7_compose N m x1 x2) (fun r3 m2 =>
    gd (inb (0 : Int32) (alen 108)) <|
    bnd (mup m2 108 (ix (0 : Int32)) (r3)) fun m6 =>
    some ((0 : Int32), m6)
  ) (fun x_4 m2 =>
  if x_4 = 2 then (
    some ((1 : Int32), m2)
  ) else (
  if x_4 = 1 then (
    some ((2 : Int32), m2)
  ) else (
  none)))
set_option maxRecDepth 100000 in
set_option maxHeartbeats 4000000 in
theorem trW_L_compose {N : Nat} {m m' : Mem} {r : Int32} {x1 : Int32} {x2 : Int32} (hF : F_L_compose N m x1 x2 = some (r, m')) : TrW yL_compose wsL_compose 8 138 3 [q_r 0, q_i x1, q_i x2, q_r 108] m r m' := by
  refine trW_of (bytes := cL_compose) (maxL := 5) (ret := (some .int)) (hh := [(0, 10, 13, 32), (0, 10, 17, 15)]) (by decide) rfl (Nat.le_of_ble_eq_true rfl) (fun K hK hR => ?_)
  have hK : KOK K cL_compose 5 RL wsL_compose 8 3 138 := hK
  show AW K 0 0 [(0, q_r 0), (1, q_i x1), (2, q_i x2), (3, q_r 108)] [] m
  unfold F_L_compose at hF
  refine aw_aload_n hK 3 rfl dL_compose_0 ?_
  refine aw_iconst hK (0) rfl dL_compose_1 ?_
  refine aw_aload_n hK 0 rfl dL_compose_2 ?_
  refine aw_iload_n hK 1 rfl dL_compose_3 ?_
  refine aw_iload_n hK 2 rfl dL_compose_4 ?_
  rcases calw_some hF with ⟨r3, m2, h1, hF⟩ | ⟨x_4, m2, h1, hF⟩
  · refine aw_cvXr hK (kwb hR) 7 (as := [q_i x1, q_i x2]) (trX_X7_compose h1) gL_compose_X7_compose rfl rfl rfl (by decide) (na := 2) (by decide +kernel) rfl ⟨by decide, by decide⟩ (Nat.le_of_ble_eq_true rfl) (Nat.le_of_ble_eq_true rfl) dL_compose_5 ?_
    refine aw_i2l hK dL_compose_8 ?_
    obtain ⟨g5, hF⟩ := gd_some hF
    refine aw_last hK rfl g5 dL_compose_9 ?_
    obtain ⟨m6, hm6, hF⟩ := bnd_some hF
    refine aw_mm hm6 ?_
    refine aw_goto hK 21 rfl dL_compose_10 ?_
    refine aw_iconst hK (0) rfl dL_compose_21 ?_
    obtain ⟨rfl, rfl⟩ := so_inj hF
    exact aw_iretW hK hR (Nat.le_of_ble_eq_true rfl) dL_compose_22
  · by_cases hx0 : x_4 = 2
    · have hF := if_t hF hx0
      subst hx0
      refine aw_cvWx hK hR 7 (as := [q_i x1, q_i x2]) (trX_X7_compose h1) gL_compose_X7_compose rfl rfl rfl (by decide) (na := 2) (by decide +kernel) rfl ⟨by decide, by decide⟩ (Nat.le_of_ble_eq_true rfl) (Nat.le_of_ble_eq_true rfl) dL_compose_5 (by decide) [] ⟨0, 10, 13, 32⟩ [⟨0, 10, 17, 15⟩] rfl (fun z hz => absurd hz List.not_mem_nil) (by decide) (by decide) (List.mem_of_getElem? (i := 1) rfl) (fun q => ?_)
      refine aw_astoreV hK [(4, q_v (.ref q)), (0, q_r 0), (1, q_i x1), (2, q_i x2), (3, q_r 108)] (by decide) rfl dL_compose_13 ?_
      refine aw_iconst hK (1) rfl dL_compose_15 ?_
      obtain ⟨rfl, rfl⟩ := so_inj hF
      exact aw_iretW hK hR (Nat.le_of_ble_eq_true rfl) dL_compose_16
    have hF := if_f hF hx0
    by_cases hx1 : x_4 = 1
    · have hF := if_t hF hx1
      subst hx1
      refine aw_cvWx hK hR 7 (as := [q_i x1, q_i x2]) (trX_X7_compose h1) gL_compose_X7_compose rfl rfl rfl (by decide) (na := 2) (by decide +kernel) rfl ⟨by decide, by decide⟩ (Nat.le_of_ble_eq_true rfl) (Nat.le_of_ble_eq_true rfl) dL_compose_5 (by decide) [⟨0, 10, 13, 32⟩] ⟨0, 10, 17, 15⟩ [] rfl (fun z hz => by rw [List.mem_singleton.mp hz]; exact Or.inr ⟨by decide, 2, by decide, by decide, (List.mem_of_getElem? (i := 1) rfl)⟩) (by decide) (by decide) (List.mem_of_getElem? (i := 2) rfl) (fun q => ?_)
      refine aw_astoreV hK [(4, q_v (.ref q)), (0, q_r 0), (1, q_i x1), (2, q_i x2), (3, q_r 108)] (by decide) rfl dL_compose_17 ?_
      refine aw_iconst hK (2) rfl dL_compose_19 ?_
      obtain ⟨rfl, rfl⟩ := so_inj hF
      exact aw_iretW hK hR (Nat.le_of_ble_eq_true rfl) dL_compose_20
    have hF := if_f hF hx1
    cases hF
def F_L_side (N : Nat) (m : Mem) (x1 : Int32) (x2 : Int32) : Option (Int32 × Mem) :=
  calw (F_X7_side N m x1 x2) (fun r3 m2 =>
    gd (inb (0 : Int32) (alen 108)) <|
    bnd (mup m2 108 (ix (0 : Int32)) (r3)) fun m6 =>
    some ((0 : Int32), m6)
  ) (fun x_4 m2 =>
  if x_4 = 2 then (
    some ((1 : Int32), m2)
  ) else (
  if x_4 = 1 then (
    some ((2 : Int32), m2)
  ) else (
  none)))
set_option maxRecDepth 100000 in
set_option maxHeartbeats 4000000 in
theorem trW_L_side {N : Nat} {m m' : Mem} {r : Int32} {x1 : Int32} {x2 : Int32} (hF : F_L_side N m x1 x2 = some (r, m')) : TrW yL_side wsL_side 8 140 2 [q_r 0, q_i x1, q_i x2, q_r 108] m r m' := by
  refine trW_of (bytes := cL_side) (maxL := 5) (ret := (some .int)) (hh := [(0, 10, 13, 32), (0, 10, 17, 15)]) (by decide) rfl (Nat.le_of_ble_eq_true rfl) (fun K hK hR => ?_)
  have hK : KOK K cL_side 5 RL wsL_side 8 2 140 := hK
  show AW K 0 0 [(0, q_r 0), (1, q_i x1), (2, q_i x2), (3, q_r 108)] [] m
  unfold F_L_side at hF
  refine aw_aload_n hK 3 rfl dL_side_0 ?_
  refine aw_iconst hK (0) rfl dL_side_1 ?_
  refine aw_aload_n hK 0 rfl dL_side_2 ?_
  refine aw_iload_n hK 1 rfl dL_side_3 ?_
  refine aw_iload_n hK 2 rfl dL_side_4 ?_
  rcases calw_some hF with ⟨r3, m2, h1, hF⟩ | ⟨x_4, m2, h1, hF⟩
  · refine aw_cvXr hK (kwb hR) 7 (as := [q_i x1, q_i x2]) (trX_X7_side h1) gL_side_X7_side rfl rfl rfl (by decide) (na := 2) (by decide +kernel) rfl ⟨by decide, by decide⟩ (Nat.le_of_ble_eq_true rfl) (Nat.le_of_ble_eq_true rfl) dL_side_5 ?_
    refine aw_i2l hK dL_side_8 ?_
    obtain ⟨g5, hF⟩ := gd_some hF
    refine aw_last hK rfl g5 dL_side_9 ?_
    obtain ⟨m6, hm6, hF⟩ := bnd_some hF
    refine aw_mm hm6 ?_
    refine aw_goto hK 21 rfl dL_side_10 ?_
    refine aw_iconst hK (0) rfl dL_side_21 ?_
    obtain ⟨rfl, rfl⟩ := so_inj hF
    exact aw_iretW hK hR (Nat.le_of_ble_eq_true rfl) dL_side_22
  · by_cases hx0 : x_4 = 2
    · have hF := if_t hF hx0
      subst hx0
      refine aw_cvWx hK hR 7 (as := [q_i x1, q_i x2]) (trX_X7_side h1) gL_side_X7_side rfl rfl rfl (by decide) (na := 2) (by decide +kernel) rfl ⟨by decide, by decide⟩ (Nat.le_of_ble_eq_true rfl) (Nat.le_of_ble_eq_true rfl) dL_side_5 (by decide) [] ⟨0, 10, 13, 32⟩ [⟨0, 10, 17, 15⟩] rfl (fun z hz => absurd hz List.not_mem_nil) (by decide) (by decide) (List.mem_of_getElem? (i := 1) rfl) (fun q => ?_)
      refine aw_astoreV hK [(4, q_v (.ref q)), (0, q_r 0), (1, q_i x1), (2, q_i x2), (3, q_r 108)] (by decide) rfl dL_side_13 ?_
      refine aw_iconst hK (1) rfl dL_side_15 ?_
      obtain ⟨rfl, rfl⟩ := so_inj hF
      exact aw_iretW hK hR (Nat.le_of_ble_eq_true rfl) dL_side_16
    have hF := if_f hF hx0
    by_cases hx1 : x_4 = 1
    · have hF := if_t hF hx1
      subst hx1
      refine aw_cvWx hK hR 7 (as := [q_i x1, q_i x2]) (trX_X7_side h1) gL_side_X7_side rfl rfl rfl (by decide) (na := 2) (by decide +kernel) rfl ⟨by decide, by decide⟩ (Nat.le_of_ble_eq_true rfl) (Nat.le_of_ble_eq_true rfl) dL_side_5 (by decide) [⟨0, 10, 13, 32⟩] ⟨0, 10, 17, 15⟩ [] rfl (fun z hz => by rw [List.mem_singleton.mp hz]; exact Or.inr ⟨by decide, 2, by decide, by decide, (List.mem_of_getElem? (i := 1) rfl)⟩) (by decide) (by decide) (List.mem_of_getElem? (i := 2) rfl) (fun q => ?_)
      refine aw_astoreV hK [(4, q_v (.ref q)), (0, q_r 0), (1, q_i x1), (2, q_i x2), (3, q_r 108)] (by decide) rfl dL_side_17 ?_
      refine aw_iconst hK (2) rfl dL_side_19 ?_
      obtain ⟨rfl, rfl⟩ := so_inj hF
      exact aw_iretW hK hR (Nat.le_of_ble_eq_true rfl) dL_side_20
    have hF := if_f hF hx1
    cases hF
def F_L_least (N : Nat) (m : Mem) (x1 : Int32) : Option (Int32 × Mem) :=
  calw (F_X7_least N m x1) (fun r3 m2 =>
    gd (inb (0 : Int32) (alen 108)) <|
    bnd (mup m2 108 (ix (0 : Int32)) (r3)) fun m6 =>
    some ((0 : Int32), m6)
  ) (fun x_4 m2 =>
  if x_4 = 2 then (
    some ((1 : Int32), m2)
  ) else (
  if x_4 = 1 then (
    some ((2 : Int32), m2)
  ) else (
  none)))
set_option maxRecDepth 100000 in
set_option maxHeartbeats 4000000 in
theorem trW_L_least {N : Nat} {m m' : Mem} {r : Int32} {x1 : Int32} (hF : F_L_least N m x1 = some (r, m')) : TrW yL_least wsL_least 8 159 5 [q_r 0, q_i x1, q_r 108] m r m' := by
  refine trW_of (bytes := cL_least) (maxL := 4) (ret := (some .int)) (hh := [(0, 9, 12, 32), (0, 9, 15, 15)]) (by decide) rfl (Nat.le_of_ble_eq_true rfl) (fun K hK hR => ?_)
  have hK : KOK K cL_least 4 RL wsL_least 8 5 159 := hK
  show AW K 0 0 [(0, q_r 0), (1, q_i x1), (2, q_r 108)] [] m
  unfold F_L_least at hF
  refine aw_aload_n hK 2 rfl dL_least_0 ?_
  refine aw_iconst hK (0) rfl dL_least_1 ?_
  refine aw_aload_n hK 0 rfl dL_least_2 ?_
  refine aw_iload_n hK 1 rfl dL_least_3 ?_
  rcases calw_some hF with ⟨r3, m2, h1, hF⟩ | ⟨x_4, m2, h1, hF⟩
  · refine aw_cvXr hK (kwb hR) 7 (as := [q_i x1]) (trX_X7_least h1) gL_least_X7_least rfl rfl rfl (by decide) (na := 1) (by decide +kernel) rfl ⟨by decide, by decide⟩ (Nat.le_of_ble_eq_true rfl) (Nat.le_of_ble_eq_true rfl) dL_least_4 ?_
    refine aw_i2l hK dL_least_7 ?_
    obtain ⟨g5, hF⟩ := gd_some hF
    refine aw_last hK rfl g5 dL_least_8 ?_
    obtain ⟨m6, hm6, hF⟩ := bnd_some hF
    refine aw_mm hm6 ?_
    refine aw_goto hK 18 rfl dL_least_9 ?_
    refine aw_iconst hK (0) rfl dL_least_18 ?_
    obtain ⟨rfl, rfl⟩ := so_inj hF
    exact aw_iretW hK hR (Nat.le_of_ble_eq_true rfl) dL_least_19
  · by_cases hx0 : x_4 = 2
    · have hF := if_t hF hx0
      subst hx0
      refine aw_cvWx hK hR 7 (as := [q_i x1]) (trX_X7_least h1) gL_least_X7_least rfl rfl rfl (by decide) (na := 1) (by decide +kernel) rfl ⟨by decide, by decide⟩ (Nat.le_of_ble_eq_true rfl) (Nat.le_of_ble_eq_true rfl) dL_least_4 (by decide) [] ⟨0, 9, 12, 32⟩ [⟨0, 9, 15, 15⟩] rfl (fun z hz => absurd hz List.not_mem_nil) (by decide) (by decide) (List.mem_of_getElem? (i := 1) rfl) (fun q => ?_)
      refine aw_astoreV_n hK [(3, q_v (.ref q)), (0, q_r 0), (1, q_i x1), (2, q_r 108)] (by decide) rfl dL_least_12 ?_
      refine aw_iconst hK (1) rfl dL_least_13 ?_
      obtain ⟨rfl, rfl⟩ := so_inj hF
      exact aw_iretW hK hR (Nat.le_of_ble_eq_true rfl) dL_least_14
    have hF := if_f hF hx0
    by_cases hx1 : x_4 = 1
    · have hF := if_t hF hx1
      subst hx1
      refine aw_cvWx hK hR 7 (as := [q_i x1]) (trX_X7_least h1) gL_least_X7_least rfl rfl rfl (by decide) (na := 1) (by decide +kernel) rfl ⟨by decide, by decide⟩ (Nat.le_of_ble_eq_true rfl) (Nat.le_of_ble_eq_true rfl) dL_least_4 (by decide) [⟨0, 9, 12, 32⟩] ⟨0, 9, 15, 15⟩ [] rfl (fun z hz => by rw [List.mem_singleton.mp hz]; exact Or.inr ⟨by decide, 2, by decide, by decide, (List.mem_of_getElem? (i := 1) rfl)⟩) (by decide) (by decide) (List.mem_of_getElem? (i := 2) rfl) (fun q => ?_)
      refine aw_astoreV_n hK [(3, q_v (.ref q)), (0, q_r 0), (1, q_i x1), (2, q_r 108)] (by decide) rfl dL_least_15 ?_
      refine aw_iconst hK (2) rfl dL_least_16 ?_
      obtain ⟨rfl, rfl⟩ := so_inj hF
      exact aw_iretW hK hR (Nat.le_of_ble_eq_true rfl) dL_least_17
    have hF := if_f hF hx1
    cases hF
def F_L_meet (N : Nat) (m : Mem) (x1 : Int32) (x2 : Int32) (x3 : Int32) : Option (Int32 × Mem) :=
  calw (F_X7_meet N m x1 x2 x3) (fun r3 m2 =>
    gd (inb (0 : Int32) (alen 108)) <|
    bnd (mup m2 108 (ix (0 : Int32)) (r3)) fun m6 =>
    some ((0 : Int32), m6)
  ) (fun x_4 m2 =>
  if x_4 = 2 then (
    some ((1 : Int32), m2)
  ) else (
  if x_4 = 1 then (
    some ((2 : Int32), m2)
  ) else (
  none)))
set_option maxRecDepth 100000 in
set_option maxHeartbeats 4000000 in
theorem trW_L_meet {N : Nat} {m m' : Mem} {r : Int32} {x1 : Int32} {x2 : Int32} {x3 : Int32} (hF : F_L_meet N m x1 x2 x3 = some (r, m')) : TrW yL_meet wsL_meet 8 162 7 [q_r 0, q_i x1, q_i x2, q_i x3, q_r 108] m r m' := by
  refine trW_of (bytes := cL_meet) (maxL := 6) (ret := (some .int)) (hh := [(0, 12, 15, 32), (0, 12, 19, 15)]) (by decide) rfl (Nat.le_of_ble_eq_true rfl) (fun K hK hR => ?_)
  have hK : KOK K cL_meet 6 RL wsL_meet 8 7 162 := hK
  show AW K 0 0 [(0, q_r 0), (1, q_i x1), (2, q_i x2), (3, q_i x3), (4, q_r 108)] [] m
  unfold F_L_meet at hF
  refine aw_aload hK 4 rfl dL_meet_0 ?_
  refine aw_iconst hK (0) rfl dL_meet_2 ?_
  refine aw_aload_n hK 0 rfl dL_meet_3 ?_
  refine aw_iload_n hK 1 rfl dL_meet_4 ?_
  refine aw_iload_n hK 2 rfl dL_meet_5 ?_
  refine aw_iload_n hK 3 rfl dL_meet_6 ?_
  rcases calw_some hF with ⟨r3, m2, h1, hF⟩ | ⟨x_4, m2, h1, hF⟩
  · refine aw_cvXr hK (kwb hR) 7 (as := [q_i x1, q_i x2, q_i x3]) (trX_X7_meet h1) gL_meet_X7_meet rfl rfl rfl (by decide) (na := 3) (by decide +kernel) rfl ⟨by decide, by decide⟩ (Nat.le_of_ble_eq_true rfl) (Nat.le_of_ble_eq_true rfl) dL_meet_7 ?_
    refine aw_i2l hK dL_meet_10 ?_
    obtain ⟨g5, hF⟩ := gd_some hF
    refine aw_last hK rfl g5 dL_meet_11 ?_
    obtain ⟨m6, hm6, hF⟩ := bnd_some hF
    refine aw_mm hm6 ?_
    refine aw_goto hK 23 rfl dL_meet_12 ?_
    refine aw_iconst hK (0) rfl dL_meet_23 ?_
    obtain ⟨rfl, rfl⟩ := so_inj hF
    exact aw_iretW hK hR (Nat.le_of_ble_eq_true rfl) dL_meet_24
  · by_cases hx0 : x_4 = 2
    · have hF := if_t hF hx0
      subst hx0
      refine aw_cvWx hK hR 7 (as := [q_i x1, q_i x2, q_i x3]) (trX_X7_meet h1) gL_meet_X7_meet rfl rfl rfl (by decide) (na := 3) (by decide +kernel) rfl ⟨by decide, by decide⟩ (Nat.le_of_ble_eq_true rfl) (Nat.le_of_ble_eq_true rfl) dL_meet_7 (by decide) [] ⟨0, 12, 15, 32⟩ [⟨0, 12, 19, 15⟩] rfl (fun z hz => absurd hz List.not_mem_nil) (by decide) (by decide) (List.mem_of_getElem? (i := 1) rfl) (fun q => ?_)
      refine aw_astoreV hK [(5, q_v (.ref q)), (0, q_r 0), (1, q_i x1), (2, q_i x2), (3, q_i x3), (4, q_r 108)] (by decide) rfl dL_meet_15 ?_
      refine aw_iconst hK (1) rfl dL_meet_17 ?_
      obtain ⟨rfl, rfl⟩ := so_inj hF
      exact aw_iretW hK hR (Nat.le_of_ble_eq_true rfl) dL_meet_18
    have hF := if_f hF hx0
    by_cases hx1 : x_4 = 1
    · have hF := if_t hF hx1
      subst hx1
      refine aw_cvWx hK hR 7 (as := [q_i x1, q_i x2, q_i x3]) (trX_X7_meet h1) gL_meet_X7_meet rfl rfl rfl (by decide) (na := 3) (by decide +kernel) rfl ⟨by decide, by decide⟩ (Nat.le_of_ble_eq_true rfl) (Nat.le_of_ble_eq_true rfl) dL_meet_7 (by decide) [⟨0, 12, 15, 32⟩] ⟨0, 12, 19, 15⟩ [] rfl (fun z hz => by rw [List.mem_singleton.mp hz]; exact Or.inr ⟨by decide, 2, by decide, by decide, (List.mem_of_getElem? (i := 1) rfl)⟩) (by decide) (by decide) (List.mem_of_getElem? (i := 2) rfl) (fun q => ?_)
      refine aw_astoreV hK [(5, q_v (.ref q)), (0, q_r 0), (1, q_i x1), (2, q_i x2), (3, q_i x3), (4, q_r 108)] (by decide) rfl dL_meet_19 ?_
      refine aw_iconst hK (2) rfl dL_meet_21 ?_
      obtain ⟨rfl, rfl⟩ := so_inj hF
      exact aw_iretW hK hR (Nat.le_of_ble_eq_true rfl) dL_meet_22
    have hF := if_f hF hx1
    cases hF
def F_L_rule (N : Nat) (m : Mem) (x1 : Int32) (x2 : Int32) (x3 : Int32) (x4 : Int32) (x5 : Int32) : Option (Int32 × Mem) :=
  calw (F_X7_rule N m x1 x2 x3 x4 x5) (fun r3 m2 =>
    gd (inb (0 : Int32) (alen 108)) <|
    bnd (mup m2 108 (ix (0 : Int32)) (r3)) fun m6 =>
    some ((0 : Int32), m6)
  ) (fun x_4 m2 =>
  if x_4 = 0 then (
    some ((1 : Int32), m2)
  ) else (
  if x_4 = 1 then (
    some ((2 : Int32), m2)
  ) else (
  none)))
set_option maxRecDepth 100000 in
set_option maxHeartbeats 4000000 in
theorem trW_L_rule {N : Nat} {m m' : Mem} {r : Int32} {x1 : Int32} {x2 : Int32} {x3 : Int32} {x4 : Int32} {x5 : Int32} (hF : F_L_rule N m x1 x2 x3 x4 x5 = some (r, m')) : TrW yL_rule wsL_rule 8 142 2 [q_r 0, q_i x1, q_i x2, q_i x3, q_i x4, q_i x5, q_r 108] m r m' := by
  refine trW_of (bytes := cL_rule) (maxL := 8) (ret := (some .int)) (hh := [(0, 16, 19, 13), (0, 16, 23, 15)]) (by decide) rfl (Nat.le_of_ble_eq_true rfl) (fun K hK hR => ?_)
  have hK : KOK K cL_rule 8 RL wsL_rule 8 2 142 := hK
  show AW K 0 0 [(0, q_r 0), (1, q_i x1), (2, q_i x2), (3, q_i x3), (4, q_i x4), (5, q_i x5), (6, q_r 108)] [] m
  unfold F_L_rule at hF
  refine aw_aload hK 6 rfl dL_rule_0 ?_
  refine aw_iconst hK (0) rfl dL_rule_2 ?_
  refine aw_aload_n hK 0 rfl dL_rule_3 ?_
  refine aw_iload_n hK 1 rfl dL_rule_4 ?_
  refine aw_iload_n hK 2 rfl dL_rule_5 ?_
  refine aw_iload_n hK 3 rfl dL_rule_6 ?_
  refine aw_iload hK 4 rfl dL_rule_7 ?_
  refine aw_iload hK 5 rfl dL_rule_9 ?_
  rcases calw_some hF with ⟨r3, m2, h1, hF⟩ | ⟨x_4, m2, h1, hF⟩
  · refine aw_cvXr hK (kwb hR) 7 (as := [q_i x1, q_i x2, q_i x3, q_i x4, q_i x5]) (trX_X7_rule h1) gL_rule_X7_rule rfl rfl rfl (by decide) (na := 5) (by decide +kernel) rfl ⟨by decide, by decide⟩ (Nat.le_of_ble_eq_true rfl) (Nat.le_of_ble_eq_true rfl) dL_rule_11 ?_
    refine aw_i2l hK dL_rule_14 ?_
    obtain ⟨g5, hF⟩ := gd_some hF
    refine aw_last hK rfl g5 dL_rule_15 ?_
    obtain ⟨m6, hm6, hF⟩ := bnd_some hF
    refine aw_mm hm6 ?_
    refine aw_goto hK 27 rfl dL_rule_16 ?_
    refine aw_iconst hK (0) rfl dL_rule_27 ?_
    obtain ⟨rfl, rfl⟩ := so_inj hF
    exact aw_iretW hK hR (Nat.le_of_ble_eq_true rfl) dL_rule_28
  · by_cases hx0 : x_4 = 0
    · have hF := if_t hF hx0
      subst hx0
      refine aw_cvWx hK hR 7 (as := [q_i x1, q_i x2, q_i x3, q_i x4, q_i x5]) (trX_X7_rule h1) gL_rule_X7_rule rfl rfl rfl (by decide) (na := 5) (by decide +kernel) rfl ⟨by decide, by decide⟩ (Nat.le_of_ble_eq_true rfl) (Nat.le_of_ble_eq_true rfl) dL_rule_11 (by decide) [] ⟨0, 16, 19, 13⟩ [⟨0, 16, 23, 15⟩] rfl (fun z hz => absurd hz List.not_mem_nil) (by decide) (by decide) (List.mem_of_getElem? (i := 1) rfl) (fun q => ?_)
      refine aw_astoreV hK [(7, q_v (.ref q)), (0, q_r 0), (1, q_i x1), (2, q_i x2), (3, q_i x3), (4, q_i x4), (5, q_i x5), (6, q_r 108)] (by decide) rfl dL_rule_19 ?_
      refine aw_iconst hK (1) rfl dL_rule_21 ?_
      obtain ⟨rfl, rfl⟩ := so_inj hF
      exact aw_iretW hK hR (Nat.le_of_ble_eq_true rfl) dL_rule_22
    have hF := if_f hF hx0
    by_cases hx1 : x_4 = 1
    · have hF := if_t hF hx1
      subst hx1
      refine aw_cvWx hK hR 7 (as := [q_i x1, q_i x2, q_i x3, q_i x4, q_i x5]) (trX_X7_rule h1) gL_rule_X7_rule rfl rfl rfl (by decide) (na := 5) (by decide +kernel) rfl ⟨by decide, by decide⟩ (Nat.le_of_ble_eq_true rfl) (Nat.le_of_ble_eq_true rfl) dL_rule_11 (by decide) [⟨0, 16, 19, 13⟩] ⟨0, 16, 23, 15⟩ [] rfl (fun z hz => by rw [List.mem_singleton.mp hz]; exact Or.inr ⟨by decide, 0, by decide, by decide, (List.mem_of_getElem? (i := 1) rfl)⟩) (by decide) (by decide) (List.mem_of_getElem? (i := 2) rfl) (fun q => ?_)
      refine aw_astoreV hK [(7, q_v (.ref q)), (0, q_r 0), (1, q_i x1), (2, q_i x2), (3, q_i x3), (4, q_i x4), (5, q_i x5), (6, q_r 108)] (by decide) rfl dL_rule_23 ?_
      refine aw_iconst hK (2) rfl dL_rule_25 ?_
      obtain ⟨rfl, rfl⟩ := so_inj hF
      exact aw_iretW hK hR (Nat.le_of_ble_eq_true rfl) dL_rule_26
    have hF := if_f hF hx1
    cases hF
def F_L_size (N : Nat) (m : Mem) (x1 : Int32) : Option (Int32 × Mem) :=
  calw (F_X7_size N m x1) (fun r3 m2 =>
    gd (inb (0 : Int32) (alen 108)) <|
    bnd (mup m2 108 (ix (0 : Int32)) (r3)) fun m6 =>
    some ((0 : Int32), m6)
  ) (fun x_4 m2 =>
  if x_4 = 2 then (
    some ((1 : Int32), m2)
  ) else (
  none))
set_option maxRecDepth 100000 in
set_option maxHeartbeats 4000000 in
theorem trW_L_size {N : Nat} {m m' : Mem} {r : Int32} {x1 : Int32} (hF : F_L_size N m x1 = some (r, m')) : TrW yL_size wsL_size 8 132 1 [q_r 0, q_i x1, q_r 108] m r m' := by
  refine trW_of (bytes := cL_size) (maxL := 4) (ret := (some .int)) (hh := [(0, 9, 12, 32)]) (by decide) rfl (Nat.le_of_ble_eq_true rfl) (fun K hK hR => ?_)
  have hK : KOK K cL_size 4 RL wsL_size 8 1 132 := hK
  show AW K 0 0 [(0, q_r 0), (1, q_i x1), (2, q_r 108)] [] m
  unfold F_L_size at hF
  refine aw_aload_n hK 2 rfl dL_size_0 ?_
  refine aw_iconst hK (0) rfl dL_size_1 ?_
  refine aw_aload_n hK 0 rfl dL_size_2 ?_
  refine aw_iload_n hK 1 rfl dL_size_3 ?_
  rcases calw_some hF with ⟨r3, m2, h1, hF⟩ | ⟨x_4, m2, h1, hF⟩
  · refine aw_cvXr hK (kwb hR) 7 (as := [q_i x1]) (trX_X7_size h1) gL_size_X7_size rfl rfl rfl (by decide) (na := 1) (by decide +kernel) rfl ⟨by decide, by decide⟩ (Nat.le_of_ble_eq_true rfl) (Nat.le_of_ble_eq_true rfl) dL_size_4 ?_
    refine aw_i2l hK dL_size_7 ?_
    obtain ⟨g5, hF⟩ := gd_some hF
    refine aw_last hK rfl g5 dL_size_8 ?_
    obtain ⟨m6, hm6, hF⟩ := bnd_some hF
    refine aw_mm hm6 ?_
    refine aw_goto hK 15 rfl dL_size_9 ?_
    refine aw_iconst hK (0) rfl dL_size_15 ?_
    obtain ⟨rfl, rfl⟩ := so_inj hF
    exact aw_iretW hK hR (Nat.le_of_ble_eq_true rfl) dL_size_16
  · by_cases hx0 : x_4 = 2
    · have hF := if_t hF hx0
      subst hx0
      refine aw_cvWx hK hR 7 (as := [q_i x1]) (trX_X7_size h1) gL_size_X7_size rfl rfl rfl (by decide) (na := 1) (by decide +kernel) rfl ⟨by decide, by decide⟩ (Nat.le_of_ble_eq_true rfl) (Nat.le_of_ble_eq_true rfl) dL_size_4 (by decide) [] ⟨0, 9, 12, 32⟩ [] rfl (fun z hz => absurd hz List.not_mem_nil) (by decide) (by decide) (List.mem_of_getElem? (i := 1) rfl) (fun q => ?_)
      refine aw_astoreV_n hK [(3, q_v (.ref q)), (0, q_r 0), (1, q_i x1), (2, q_r 108)] (by decide) rfl dL_size_12 ?_
      refine aw_iconst hK (1) rfl dL_size_13 ?_
      obtain ⟨rfl, rfl⟩ := so_inj hF
      exact aw_iretW hK hR (Nat.le_of_ble_eq_true rfl) dL_size_14
    have hF := if_f hF hx0
    cases hF
def F_L_isEnd (N : Nat) (m : Mem) (x1 : Int32) (x2 : Int32) : Option (Int32 × Mem) :=
  calw (F_X7_isEnd N m x1 x2) (fun r3 m2 =>
    if r3 = (0 : Int32) then (
      gd (inb (0 : Int32) (alen 108)) <|
      bnd (mup m2 108 (ix (0 : Int32)) ((0 : Int32))) fun m6 =>
      some ((0 : Int32), m6)
    ) else (
      gd (inb (0 : Int32) (alen 108)) <|
      bnd (mup m2 108 (ix (0 : Int32)) ((1 : Int32))) fun m8 =>
      some ((0 : Int32), m8)
    )
  ) (fun x_4 m2 =>
  if x_4 = 2 then (
    some ((1 : Int32), m2)
  ) else (
  none))
set_option maxRecDepth 100000 in
set_option maxHeartbeats 4000000 in
theorem trW_L_isEnd {N : Nat} {m m' : Mem} {r : Int32} {x1 : Int32} {x2 : Int32} (hF : F_L_isEnd N m x1 x2 = some (r, m')) : TrW yL_isEnd wsL_isEnd 8 133 2 [q_r 0, q_i x1, q_i x2, q_r 108] m r m' := by
  refine trW_of (bytes := cL_isEnd) (maxL := 5) (ret := (some .int)) (hh := [(0, 17, 20, 32)]) (by decide) rfl (Nat.le_of_ble_eq_true rfl) (fun K hK hR => ?_)
  have hK : KOK K cL_isEnd 5 RL wsL_isEnd 8 2 133 := hK
  show AW K 0 0 [(0, q_r 0), (1, q_i x1), (2, q_i x2), (3, q_r 108)] [] m
  unfold F_L_isEnd at hF
  refine aw_aload_n hK 3 rfl dL_isEnd_0 ?_
  refine aw_iconst hK (0) rfl dL_isEnd_1 ?_
  refine aw_aload_n hK 0 rfl dL_isEnd_2 ?_
  refine aw_iload_n hK 1 rfl dL_isEnd_3 ?_
  refine aw_iload_n hK 2 rfl dL_isEnd_4 ?_
  rcases calw_some hF with ⟨r3, m2, h1, hF⟩ | ⟨x_4, m2, h1, hF⟩
  · refine aw_cvXr hK (kwb hR) 7 (as := [q_i x1, q_i x2]) (trX_X7_isEnd h1) gL_isEnd_X7_isEnd rfl rfl rfl (by decide) (na := 2) (by decide +kernel) rfl ⟨by decide, by decide⟩ (Nat.le_of_ble_eq_true rfl) (Nat.le_of_ble_eq_true rfl) dL_isEnd_5 ?_
    refine aw_if_eq hK 15 rfl dL_isEnd_8 (fun hc => ?_) (fun hc => ?_)
    · have hF := if_t hF hc
      refine aw_lconst hK (0) rfl dL_isEnd_15 ?_
      obtain ⟨g5, hF⟩ := gd_some hF
      refine aw_last hK rfl g5 dL_isEnd_16 ?_
      obtain ⟨m6, hm6, hF⟩ := bnd_some hF
      refine aw_mm hm6 ?_
      refine aw_goto hK 24 rfl dL_isEnd_17 ?_
      refine aw_iconst hK (0) rfl dL_isEnd_24 ?_
      obtain ⟨rfl, rfl⟩ := so_inj hF
      exact aw_iretW hK hR (Nat.le_of_ble_eq_true rfl) dL_isEnd_25
    · have hF := if_f hF hc
      refine aw_lconst hK (1) rfl dL_isEnd_11 ?_
      refine aw_goto hK 16 rfl dL_isEnd_12 ?_
      obtain ⟨g7, hF⟩ := gd_some hF
      refine aw_last hK rfl g7 dL_isEnd_16 ?_
      obtain ⟨m8, hm8, hF⟩ := bnd_some hF
      refine aw_mm hm8 ?_
      refine aw_goto hK 24 rfl dL_isEnd_17 ?_
      refine aw_iconst hK (0) rfl dL_isEnd_24 ?_
      obtain ⟨rfl, rfl⟩ := so_inj hF
      exact aw_iretW hK hR (Nat.le_of_ble_eq_true rfl) dL_isEnd_25
  · by_cases hx0 : x_4 = 2
    · have hF := if_t hF hx0
      subst hx0
      refine aw_cvWx hK hR 7 (as := [q_i x1, q_i x2]) (trX_X7_isEnd h1) gL_isEnd_X7_isEnd rfl rfl rfl (by decide) (na := 2) (by decide +kernel) rfl ⟨by decide, by decide⟩ (Nat.le_of_ble_eq_true rfl) (Nat.le_of_ble_eq_true rfl) dL_isEnd_5 (by decide) [] ⟨0, 17, 20, 32⟩ [] rfl (fun z hz => absurd hz List.not_mem_nil) (by decide) (by decide) (List.mem_of_getElem? (i := 1) rfl) (fun q => ?_)
      refine aw_astoreV hK [(4, q_v (.ref q)), (0, q_r 0), (1, q_i x1), (2, q_i x2), (3, q_r 108)] (by decide) rfl dL_isEnd_20 ?_
      refine aw_iconst hK (1) rfl dL_isEnd_22 ?_
      obtain ⟨rfl, rfl⟩ := so_inj hF
      exact aw_iretW hK hR (Nat.le_of_ble_eq_true rfl) dL_isEnd_23
    have hF := if_f hF hx0
    cases hF
def F_L_arc (N : Nat) (m : Mem) (x1 : Int32) (x2 : Int32) (x3 : Int32) : Option (Int32 × Mem) :=
  calw (F_X7_arc N m x1 x2 x3) (fun r3 m2 =>
    gd (inb (0 : Int32) (alen 108)) <|
    bnd (mup m2 108 (ix (0 : Int32)) (r3)) fun m6 =>
    some ((0 : Int32), m6)
  ) (fun x_4 m2 =>
  if x_4 = 2 then (
    some ((1 : Int32), m2)
  ) else (
  if x_4 = 0 then (
    some ((2 : Int32), m2)
  ) else (
  none)))
set_option maxRecDepth 100000 in
set_option maxHeartbeats 4000000 in
theorem trW_L_arc {N : Nat} {m m' : Mem} {r : Int32} {x1 : Int32} {x2 : Int32} {x3 : Int32} (hF : F_L_arc N m x1 x2 x3 = some (r, m')) : TrW yL_arc wsL_arc 8 135 2 [q_r 0, q_i x1, q_i x2, q_i x3, q_r 108] m r m' := by
  refine trW_of (bytes := cL_arc) (maxL := 6) (ret := (some .int)) (hh := [(0, 12, 15, 32), (0, 12, 19, 13)]) (by decide) rfl (Nat.le_of_ble_eq_true rfl) (fun K hK hR => ?_)
  have hK : KOK K cL_arc 6 RL wsL_arc 8 2 135 := hK
  show AW K 0 0 [(0, q_r 0), (1, q_i x1), (2, q_i x2), (3, q_i x3), (4, q_r 108)] [] m
  unfold F_L_arc at hF
  refine aw_aload hK 4 rfl dL_arc_0 ?_
  refine aw_iconst hK (0) rfl dL_arc_2 ?_
  refine aw_aload_n hK 0 rfl dL_arc_3 ?_
  refine aw_iload_n hK 1 rfl dL_arc_4 ?_
  refine aw_iload_n hK 2 rfl dL_arc_5 ?_
  refine aw_iload_n hK 3 rfl dL_arc_6 ?_
  rcases calw_some hF with ⟨r3, m2, h1, hF⟩ | ⟨x_4, m2, h1, hF⟩
  · refine aw_cvXr hK (kwb hR) 7 (as := [q_i x1, q_i x2, q_i x3]) (trX_X7_arc h1) gL_arc_X7_arc rfl rfl rfl (by decide) (na := 3) (by decide +kernel) rfl ⟨by decide, by decide⟩ (Nat.le_of_ble_eq_true rfl) (Nat.le_of_ble_eq_true rfl) dL_arc_7 ?_
    refine aw_i2l hK dL_arc_10 ?_
    obtain ⟨g5, hF⟩ := gd_some hF
    refine aw_last hK rfl g5 dL_arc_11 ?_
    obtain ⟨m6, hm6, hF⟩ := bnd_some hF
    refine aw_mm hm6 ?_
    refine aw_goto hK 23 rfl dL_arc_12 ?_
    refine aw_iconst hK (0) rfl dL_arc_23 ?_
    obtain ⟨rfl, rfl⟩ := so_inj hF
    exact aw_iretW hK hR (Nat.le_of_ble_eq_true rfl) dL_arc_24
  · by_cases hx0 : x_4 = 2
    · have hF := if_t hF hx0
      subst hx0
      refine aw_cvWx hK hR 7 (as := [q_i x1, q_i x2, q_i x3]) (trX_X7_arc h1) gL_arc_X7_arc rfl rfl rfl (by decide) (na := 3) (by decide +kernel) rfl ⟨by decide, by decide⟩ (Nat.le_of_ble_eq_true rfl) (Nat.le_of_ble_eq_true rfl) dL_arc_7 (by decide) [] ⟨0, 12, 15, 32⟩ [⟨0, 12, 19, 13⟩] rfl (fun z hz => absurd hz List.not_mem_nil) (by decide) (by decide) (List.mem_of_getElem? (i := 1) rfl) (fun q => ?_)
      refine aw_astoreV hK [(5, q_v (.ref q)), (0, q_r 0), (1, q_i x1), (2, q_i x2), (3, q_i x3), (4, q_r 108)] (by decide) rfl dL_arc_15 ?_
      refine aw_iconst hK (1) rfl dL_arc_17 ?_
      obtain ⟨rfl, rfl⟩ := so_inj hF
      exact aw_iretW hK hR (Nat.le_of_ble_eq_true rfl) dL_arc_18
    have hF := if_f hF hx0
    by_cases hx1 : x_4 = 0
    · have hF := if_t hF hx1
      subst hx1
      refine aw_cvWx hK hR 7 (as := [q_i x1, q_i x2, q_i x3]) (trX_X7_arc h1) gL_arc_X7_arc rfl rfl rfl (by decide) (na := 3) (by decide +kernel) rfl ⟨by decide, by decide⟩ (Nat.le_of_ble_eq_true rfl) (Nat.le_of_ble_eq_true rfl) dL_arc_7 (by decide) [⟨0, 12, 15, 32⟩] ⟨0, 12, 19, 13⟩ [] rfl (fun z hz => by rw [List.mem_singleton.mp hz]; exact Or.inr ⟨by decide, 2, by decide, by decide, (List.mem_of_getElem? (i := 1) rfl)⟩) (by decide) (by decide) (List.mem_of_getElem? (i := 2) rfl) (fun q => ?_)
      refine aw_astoreV hK [(5, q_v (.ref q)), (0, q_r 0), (1, q_i x1), (2, q_i x2), (3, q_i x3), (4, q_r 108)] (by decide) rfl dL_arc_19 ?_
      refine aw_iconst hK (2) rfl dL_arc_21 ?_
      obtain ⟨rfl, rfl⟩ := so_inj hF
      exact aw_iretW hK hR (Nat.le_of_ble_eq_true rfl) dL_arc_22
    have hF := if_f hF hx1
    cases hF
def F_L_isPlain (N : Nat) (m : Mem) (x1 : Int32) : Option (Int32 × Mem) :=
  calw (F_X7_isPlain N m x1) (fun r3 m2 =>
    if r3 = (0 : Int32) then (
      gd (inb (0 : Int32) (alen 108)) <|
      bnd (mup m2 108 (ix (0 : Int32)) ((0 : Int32))) fun m6 =>
      some ((0 : Int32), m6)
    ) else (
      gd (inb (0 : Int32) (alen 108)) <|
      bnd (mup m2 108 (ix (0 : Int32)) ((1 : Int32))) fun m8 =>
      some ((0 : Int32), m8)
    )
  ) (fun x_4 m2 =>
  if x_4 = 2 then (
    some ((1 : Int32), m2)
  ) else (
  none))
set_option maxRecDepth 100000 in
set_option maxHeartbeats 4000000 in
theorem trW_L_isPlain {N : Nat} {m m' : Mem} {r : Int32} {x1 : Int32} (hF : F_L_isPlain N m x1 = some (r, m')) : TrW yL_isPlain wsL_isPlain 8 132 1 [q_r 0, q_i x1, q_r 108] m r m' := by
  refine trW_of (bytes := cL_isPlain) (maxL := 4) (ret := (some .int)) (hh := [(0, 16, 19, 32)]) (by decide) rfl (Nat.le_of_ble_eq_true rfl) (fun K hK hR => ?_)
  have hK : KOK K cL_isPlain 4 RL wsL_isPlain 8 1 132 := hK
  show AW K 0 0 [(0, q_r 0), (1, q_i x1), (2, q_r 108)] [] m
  unfold F_L_isPlain at hF
  refine aw_aload_n hK 2 rfl dL_isPlain_0 ?_
  refine aw_iconst hK (0) rfl dL_isPlain_1 ?_
  refine aw_aload_n hK 0 rfl dL_isPlain_2 ?_
  refine aw_iload_n hK 1 rfl dL_isPlain_3 ?_
  rcases calw_some hF with ⟨r3, m2, h1, hF⟩ | ⟨x_4, m2, h1, hF⟩
  · refine aw_cvXr hK (kwb hR) 7 (as := [q_i x1]) (trX_X7_isPlain h1) gL_isPlain_X7_isPlain rfl rfl rfl (by decide) (na := 1) (by decide +kernel) rfl ⟨by decide, by decide⟩ (Nat.le_of_ble_eq_true rfl) (Nat.le_of_ble_eq_true rfl) dL_isPlain_4 ?_
    refine aw_if_eq hK 14 rfl dL_isPlain_7 (fun hc => ?_) (fun hc => ?_)
    · have hF := if_t hF hc
      refine aw_lconst hK (0) rfl dL_isPlain_14 ?_
      obtain ⟨g5, hF⟩ := gd_some hF
      refine aw_last hK rfl g5 dL_isPlain_15 ?_
      obtain ⟨m6, hm6, hF⟩ := bnd_some hF
      refine aw_mm hm6 ?_
      refine aw_goto hK 22 rfl dL_isPlain_16 ?_
      refine aw_iconst hK (0) rfl dL_isPlain_22 ?_
      obtain ⟨rfl, rfl⟩ := so_inj hF
      exact aw_iretW hK hR (Nat.le_of_ble_eq_true rfl) dL_isPlain_23
    · have hF := if_f hF hc
      refine aw_lconst hK (1) rfl dL_isPlain_10 ?_
      refine aw_goto hK 15 rfl dL_isPlain_11 ?_
      obtain ⟨g7, hF⟩ := gd_some hF
      refine aw_last hK rfl g7 dL_isPlain_15 ?_
      obtain ⟨m8, hm8, hF⟩ := bnd_some hF
      refine aw_mm hm8 ?_
      refine aw_goto hK 22 rfl dL_isPlain_16 ?_
      refine aw_iconst hK (0) rfl dL_isPlain_22 ?_
      obtain ⟨rfl, rfl⟩ := so_inj hF
      exact aw_iretW hK hR (Nat.le_of_ble_eq_true rfl) dL_isPlain_23
  · by_cases hx0 : x_4 = 2
    · have hF := if_t hF hx0
      subst hx0
      refine aw_cvWx hK hR 7 (as := [q_i x1]) (trX_X7_isPlain h1) gL_isPlain_X7_isPlain rfl rfl rfl (by decide) (na := 1) (by decide +kernel) rfl ⟨by decide, by decide⟩ (Nat.le_of_ble_eq_true rfl) (Nat.le_of_ble_eq_true rfl) dL_isPlain_4 (by decide) [] ⟨0, 16, 19, 32⟩ [] rfl (fun z hz => absurd hz List.not_mem_nil) (by decide) (by decide) (List.mem_of_getElem? (i := 1) rfl) (fun q => ?_)
      refine aw_astoreV_n hK [(3, q_v (.ref q)), (0, q_r 0), (1, q_i x1), (2, q_r 108)] (by decide) rfl dL_isPlain_19 ?_
      refine aw_iconst hK (1) rfl dL_isPlain_20 ?_
      obtain ⟨rfl, rfl⟩ := so_inj hF
      exact aw_iretW hK hR (Nat.le_of_ble_eq_true rfl) dL_isPlain_21
    have hF := if_f hF hx0
    cases hF
def F_L_answer (N : Nat) (m : Mem) (x1 : Int32) (x2 : Int32) (x3 : Int32) (x4 : Int32) : Option (Int32 × Mem) :=
  calw (F_X7_answer N m x1 x2 x3 x4) (fun r3 m2 =>
    gd (inb (0 : Int32) (alen 108)) <|
    bnd (mup m2 108 (ix (0 : Int32)) (r3)) fun m6 =>
    some ((0 : Int32), m6)
  ) (fun x_4 m2 =>
  if x_4 = 2 then (
    some ((1 : Int32), m2)
  ) else (
  if x_4 = 0 then (
    some ((2 : Int32), m2)
  ) else (
  none)))
set_option maxRecDepth 100000 in
set_option maxHeartbeats 4000000 in
theorem trW_L_answer {N : Nat} {m m' : Mem} {r : Int32} {x1 : Int32} {x2 : Int32} {x3 : Int32} {x4 : Int32} (hF : F_L_answer N m x1 x2 x3 x4 = some (r, m')) : TrW yL_answer wsL_answer 8 143 3 [q_r 0, q_i x1, q_i x2, q_i x3, q_i x4, q_r 108] m r m' := by
  refine trW_of (bytes := cL_answer) (maxL := 7) (ret := (some .int)) (hh := [(0, 14, 17, 32), (0, 14, 21, 13)]) (by decide) rfl (Nat.le_of_ble_eq_true rfl) (fun K hK hR => ?_)
  have hK : KOK K cL_answer 7 RL wsL_answer 8 3 143 := hK
  show AW K 0 0 [(0, q_r 0), (1, q_i x1), (2, q_i x2), (3, q_i x3), (4, q_i x4), (5, q_r 108)] [] m
  unfold F_L_answer at hF
  refine aw_aload hK 5 rfl dL_answer_0 ?_
  refine aw_iconst hK (0) rfl dL_answer_2 ?_
  refine aw_aload_n hK 0 rfl dL_answer_3 ?_
  refine aw_iload_n hK 1 rfl dL_answer_4 ?_
  refine aw_iload_n hK 2 rfl dL_answer_5 ?_
  refine aw_iload_n hK 3 rfl dL_answer_6 ?_
  refine aw_iload hK 4 rfl dL_answer_7 ?_
  rcases calw_some hF with ⟨r3, m2, h1, hF⟩ | ⟨x_4, m2, h1, hF⟩
  · refine aw_cvXr hK (kwb hR) 7 (as := [q_i x1, q_i x2, q_i x3, q_i x4]) (trX_X7_answer h1) gL_answer_X7_answer rfl rfl rfl (by decide) (na := 4) (by decide +kernel) rfl ⟨by decide, by decide⟩ (Nat.le_of_ble_eq_true rfl) (Nat.le_of_ble_eq_true rfl) dL_answer_9 ?_
    refine aw_i2l hK dL_answer_12 ?_
    obtain ⟨g5, hF⟩ := gd_some hF
    refine aw_last hK rfl g5 dL_answer_13 ?_
    obtain ⟨m6, hm6, hF⟩ := bnd_some hF
    refine aw_mm hm6 ?_
    refine aw_goto hK 25 rfl dL_answer_14 ?_
    refine aw_iconst hK (0) rfl dL_answer_25 ?_
    obtain ⟨rfl, rfl⟩ := so_inj hF
    exact aw_iretW hK hR (Nat.le_of_ble_eq_true rfl) dL_answer_26
  · by_cases hx0 : x_4 = 2
    · have hF := if_t hF hx0
      subst hx0
      refine aw_cvWx hK hR 7 (as := [q_i x1, q_i x2, q_i x3, q_i x4]) (trX_X7_answer h1) gL_answer_X7_answer rfl rfl rfl (by decide) (na := 4) (by decide +kernel) rfl ⟨by decide, by decide⟩ (Nat.le_of_ble_eq_true rfl) (Nat.le_of_ble_eq_true rfl) dL_answer_9 (by decide) [] ⟨0, 14, 17, 32⟩ [⟨0, 14, 21, 13⟩] rfl (fun z hz => absurd hz List.not_mem_nil) (by decide) (by decide) (List.mem_of_getElem? (i := 1) rfl) (fun q => ?_)
      refine aw_astoreV hK [(6, q_v (.ref q)), (0, q_r 0), (1, q_i x1), (2, q_i x2), (3, q_i x3), (4, q_i x4), (5, q_r 108)] (by decide) rfl dL_answer_17 ?_
      refine aw_iconst hK (1) rfl dL_answer_19 ?_
      obtain ⟨rfl, rfl⟩ := so_inj hF
      exact aw_iretW hK hR (Nat.le_of_ble_eq_true rfl) dL_answer_20
    have hF := if_f hF hx0
    by_cases hx1 : x_4 = 0
    · have hF := if_t hF hx1
      subst hx1
      refine aw_cvWx hK hR 7 (as := [q_i x1, q_i x2, q_i x3, q_i x4]) (trX_X7_answer h1) gL_answer_X7_answer rfl rfl rfl (by decide) (na := 4) (by decide +kernel) rfl ⟨by decide, by decide⟩ (Nat.le_of_ble_eq_true rfl) (Nat.le_of_ble_eq_true rfl) dL_answer_9 (by decide) [⟨0, 14, 17, 32⟩] ⟨0, 14, 21, 13⟩ [] rfl (fun z hz => by rw [List.mem_singleton.mp hz]; exact Or.inr ⟨by decide, 2, by decide, by decide, (List.mem_of_getElem? (i := 1) rfl)⟩) (by decide) (by decide) (List.mem_of_getElem? (i := 2) rfl) (fun q => ?_)
      refine aw_astoreV hK [(6, q_v (.ref q)), (0, q_r 0), (1, q_i x1), (2, q_i x2), (3, q_i x3), (4, q_i x4), (5, q_r 108)] (by decide) rfl dL_answer_21 ?_
      refine aw_iconst hK (2) rfl dL_answer_23 ?_
      obtain ⟨rfl, rfl⟩ := so_inj hF
      exact aw_iretW hK hR (Nat.le_of_ble_eq_true rfl) dL_answer_24
    have hF := if_f hF hx1
    cases hF
def F_L_answers (N : Nat) (m : Mem) (x1 : Int32) (x2 : Int32) : Option (Int32 × Mem) :=
  calw (F_X7_answers N m x1 x2) (fun r3 m2 =>
    gd (inb (0 : Int32) (alen 108)) <|
    bnd (mup m2 108 (ix (0 : Int32)) (r3)) fun m6 =>
    some ((0 : Int32), m6)
  ) (fun x_4 m2 =>
  if x_4 = 2 then (
    some ((1 : Int32), m2)
  ) else (
  none))
set_option maxRecDepth 100000 in
set_option maxHeartbeats 4000000 in
theorem trW_L_answers {N : Nat} {m m' : Mem} {r : Int32} {x1 : Int32} {x2 : Int32} (hF : F_L_answers N m x1 x2 = some (r, m')) : TrW yL_answers wsL_answers 8 141 1 [q_r 0, q_i x1, q_i x2, q_r 108] m r m' := by
  refine trW_of (bytes := cL_answers) (maxL := 5) (ret := (some .int)) (hh := [(0, 10, 13, 32)]) (by decide) rfl (Nat.le_of_ble_eq_true rfl) (fun K hK hR => ?_)
  have hK : KOK K cL_answers 5 RL wsL_answers 8 1 141 := hK
  show AW K 0 0 [(0, q_r 0), (1, q_i x1), (2, q_i x2), (3, q_r 108)] [] m
  unfold F_L_answers at hF
  refine aw_aload_n hK 3 rfl dL_answers_0 ?_
  refine aw_iconst hK (0) rfl dL_answers_1 ?_
  refine aw_aload_n hK 0 rfl dL_answers_2 ?_
  refine aw_iload_n hK 1 rfl dL_answers_3 ?_
  refine aw_iload_n hK 2 rfl dL_answers_4 ?_
  rcases calw_some hF with ⟨r3, m2, h1, hF⟩ | ⟨x_4, m2, h1, hF⟩
  · refine aw_cvXr hK (kwb hR) 7 (as := [q_i x1, q_i x2]) (trX_X7_answers h1) gL_answers_X7_answers rfl rfl rfl (by decide) (na := 2) (by decide +kernel) rfl ⟨by decide, by decide⟩ (Nat.le_of_ble_eq_true rfl) (Nat.le_of_ble_eq_true rfl) dL_answers_5 ?_
    refine aw_i2l hK dL_answers_8 ?_
    obtain ⟨g5, hF⟩ := gd_some hF
    refine aw_last hK rfl g5 dL_answers_9 ?_
    obtain ⟨m6, hm6, hF⟩ := bnd_some hF
    refine aw_mm hm6 ?_
    refine aw_goto hK 17 rfl dL_answers_10 ?_
    refine aw_iconst hK (0) rfl dL_answers_17 ?_
    obtain ⟨rfl, rfl⟩ := so_inj hF
    exact aw_iretW hK hR (Nat.le_of_ble_eq_true rfl) dL_answers_18
  · by_cases hx0 : x_4 = 2
    · have hF := if_t hF hx0
      subst hx0
      refine aw_cvWx hK hR 7 (as := [q_i x1, q_i x2]) (trX_X7_answers h1) gL_answers_X7_answers rfl rfl rfl (by decide) (na := 2) (by decide +kernel) rfl ⟨by decide, by decide⟩ (Nat.le_of_ble_eq_true rfl) (Nat.le_of_ble_eq_true rfl) dL_answers_5 (by decide) [] ⟨0, 10, 13, 32⟩ [] rfl (fun z hz => absurd hz List.not_mem_nil) (by decide) (by decide) (List.mem_of_getElem? (i := 1) rfl) (fun q => ?_)
      refine aw_astoreV hK [(4, q_v (.ref q)), (0, q_r 0), (1, q_i x1), (2, q_i x2), (3, q_r 108)] (by decide) rfl dL_answers_13 ?_
      refine aw_iconst hK (1) rfl dL_answers_15 ?_
      obtain ⟨rfl, rfl⟩ := so_inj hF
      exact aw_iretW hK hR (Nat.le_of_ble_eq_true rfl) dL_answers_16
    have hF := if_f hF hx0
    cases hF
def F_L_cost (N : Nat) (m : Mem) (x1 : Int32) (x2 : Int32) : Option (Int32 × Mem) :=
  calw (F_X7_cost N m x1 x2) (fun r3 m2 =>
    gd (inb (0 : Int32) (alen 108)) <|
    bnd (mup m2 108 (ix (0 : Int32)) (r3)) fun m6 =>
    some ((0 : Int32), m6)
  ) (fun x_4 m2 =>
  if x_4 = 2 then (
    some ((1 : Int32), m2)
  ) else (
  none))
set_option maxRecDepth 100000 in
set_option maxHeartbeats 4000000 in
theorem trW_L_cost {N : Nat} {m m' : Mem} {r : Int32} {x1 : Int32} {x2 : Int32} (hF : F_L_cost N m x1 x2 = some (r, m')) : TrW yL_cost wsL_cost 8 139 1 [q_r 0, q_i x1, q_i x2, q_r 108] m r m' := by
  refine trW_of (bytes := cL_cost) (maxL := 5) (ret := (some .int)) (hh := [(0, 10, 13, 32)]) (by decide) rfl (Nat.le_of_ble_eq_true rfl) (fun K hK hR => ?_)
  have hK : KOK K cL_cost 5 RL wsL_cost 8 1 139 := hK
  show AW K 0 0 [(0, q_r 0), (1, q_i x1), (2, q_i x2), (3, q_r 108)] [] m
  unfold F_L_cost at hF
  refine aw_aload_n hK 3 rfl dL_cost_0 ?_
  refine aw_iconst hK (0) rfl dL_cost_1 ?_
  refine aw_aload_n hK 0 rfl dL_cost_2 ?_
  refine aw_iload_n hK 1 rfl dL_cost_3 ?_
  refine aw_iload_n hK 2 rfl dL_cost_4 ?_
  rcases calw_some hF with ⟨r3, m2, h1, hF⟩ | ⟨x_4, m2, h1, hF⟩
  · refine aw_cvXr hK (kwb hR) 7 (as := [q_i x1, q_i x2]) (trX_X7_cost h1) gL_cost_X7_cost rfl rfl rfl (by decide) (na := 2) (by decide +kernel) rfl ⟨by decide, by decide⟩ (Nat.le_of_ble_eq_true rfl) (Nat.le_of_ble_eq_true rfl) dL_cost_5 ?_
    refine aw_i2l hK dL_cost_8 ?_
    obtain ⟨g5, hF⟩ := gd_some hF
    refine aw_last hK rfl g5 dL_cost_9 ?_
    obtain ⟨m6, hm6, hF⟩ := bnd_some hF
    refine aw_mm hm6 ?_
    refine aw_goto hK 17 rfl dL_cost_10 ?_
    refine aw_iconst hK (0) rfl dL_cost_17 ?_
    obtain ⟨rfl, rfl⟩ := so_inj hF
    exact aw_iretW hK hR (Nat.le_of_ble_eq_true rfl) dL_cost_18
  · by_cases hx0 : x_4 = 2
    · have hF := if_t hF hx0
      subst hx0
      refine aw_cvWx hK hR 7 (as := [q_i x1, q_i x2]) (trX_X7_cost h1) gL_cost_X7_cost rfl rfl rfl (by decide) (na := 2) (by decide +kernel) rfl ⟨by decide, by decide⟩ (Nat.le_of_ble_eq_true rfl) (Nat.le_of_ble_eq_true rfl) dL_cost_5 (by decide) [] ⟨0, 10, 13, 32⟩ [] rfl (fun z hz => absurd hz List.not_mem_nil) (by decide) (by decide) (List.mem_of_getElem? (i := 1) rfl) (fun q => ?_)
      refine aw_astoreV hK [(4, q_v (.ref q)), (0, q_r 0), (1, q_i x1), (2, q_i x2), (3, q_r 108)] (by decide) rfl dL_cost_13 ?_
      refine aw_iconst hK (1) rfl dL_cost_15 ?_
      obtain ⟨rfl, rfl⟩ := so_inj hF
      exact aw_iretW hK hR (Nat.le_of_ble_eq_true rfl) dL_cost_16
    have hF := if_f hF hx0
    cases hF
def F_L_best (N : Nat) (m : Mem) (x1 : Int32) (x2 : Int32) (x3 : Int32) : Option (Int32 × Mem) :=
  calw (F_X7_best N m x1 x2 x3) (fun r3 m2 =>
    gd (inb (0 : Int32) (alen 108)) <|
    bnd (mup m2 108 (ix (0 : Int32)) (r3)) fun m6 =>
    some ((0 : Int32), m6)
  ) (fun x_4 m2 =>
  if x_4 = 2 then (
    some ((1 : Int32), m2)
  ) else (
  none))
set_option maxRecDepth 100000 in
set_option maxHeartbeats 4000000 in
theorem trW_L_best {N : Nat} {m m' : Mem} {r : Int32} {x1 : Int32} {x2 : Int32} {x3 : Int32} (hF : F_L_best N m x1 x2 x3 = some (r, m')) : TrW yL_best wsL_best 8 142 2 [q_r 0, q_i x1, q_i x2, q_i x3, q_r 108] m r m' := by
  refine trW_of (bytes := cL_best) (maxL := 6) (ret := (some .int)) (hh := [(0, 12, 15, 32)]) (by decide) rfl (Nat.le_of_ble_eq_true rfl) (fun K hK hR => ?_)
  have hK : KOK K cL_best 6 RL wsL_best 8 2 142 := hK
  show AW K 0 0 [(0, q_r 0), (1, q_i x1), (2, q_i x2), (3, q_i x3), (4, q_r 108)] [] m
  unfold F_L_best at hF
  refine aw_aload hK 4 rfl dL_best_0 ?_
  refine aw_iconst hK (0) rfl dL_best_2 ?_
  refine aw_aload_n hK 0 rfl dL_best_3 ?_
  refine aw_iload_n hK 1 rfl dL_best_4 ?_
  refine aw_iload_n hK 2 rfl dL_best_5 ?_
  refine aw_iload_n hK 3 rfl dL_best_6 ?_
  rcases calw_some hF with ⟨r3, m2, h1, hF⟩ | ⟨x_4, m2, h1, hF⟩
  · refine aw_cvXr hK (kwb hR) 7 (as := [q_i x1, q_i x2, q_i x3]) (trX_X7_best h1) gL_best_X7_best rfl rfl rfl (by decide) (na := 3) (by decide +kernel) rfl ⟨by decide, by decide⟩ (Nat.le_of_ble_eq_true rfl) (Nat.le_of_ble_eq_true rfl) dL_best_7 ?_
    refine aw_i2l hK dL_best_10 ?_
    obtain ⟨g5, hF⟩ := gd_some hF
    refine aw_last hK rfl g5 dL_best_11 ?_
    obtain ⟨m6, hm6, hF⟩ := bnd_some hF
    refine aw_mm hm6 ?_
    refine aw_goto hK 19 rfl dL_best_12 ?_
    refine aw_iconst hK (0) rfl dL_best_19 ?_
    obtain ⟨rfl, rfl⟩ := so_inj hF
    exact aw_iretW hK hR (Nat.le_of_ble_eq_true rfl) dL_best_20
  · by_cases hx0 : x_4 = 2
    · have hF := if_t hF hx0
      subst hx0
      refine aw_cvWx hK hR 7 (as := [q_i x1, q_i x2, q_i x3]) (trX_X7_best h1) gL_best_X7_best rfl rfl rfl (by decide) (na := 3) (by decide +kernel) rfl ⟨by decide, by decide⟩ (Nat.le_of_ble_eq_true rfl) (Nat.le_of_ble_eq_true rfl) dL_best_7 (by decide) [] ⟨0, 12, 15, 32⟩ [] rfl (fun z hz => absurd hz List.not_mem_nil) (by decide) (by decide) (List.mem_of_getElem? (i := 1) rfl) (fun q => ?_)
      refine aw_astoreV hK [(5, q_v (.ref q)), (0, q_r 0), (1, q_i x1), (2, q_i x2), (3, q_i x3), (4, q_r 108)] (by decide) rfl dL_best_15 ?_
      refine aw_iconst hK (1) rfl dL_best_17 ?_
      obtain ⟨rfl, rfl⟩ := so_inj hF
      exact aw_iretW hK hR (Nat.le_of_ble_eq_true rfl) dL_best_18
    have hF := if_f hF hx0
    cases hF
def F_L_changes (N : Nat) (m : Mem) (x1 : Int32) : Option (Int32 × Mem) :=
  calw (F_X7_changes N m x1) (fun r3 m2 =>
    gd (inb (0 : Int32) (alen 108)) <|
    bnd (mup m2 108 (ix (0 : Int32)) (r3)) fun m6 =>
    some ((0 : Int32), m6)
  ) (fun x_4 m2 =>
  if x_4 = 2 then (
    some ((1 : Int32), m2)
  ) else (
  none))
set_option maxRecDepth 100000 in
set_option maxHeartbeats 4000000 in
theorem trW_L_changes {N : Nat} {m m' : Mem} {r : Int32} {x1 : Int32} (hF : F_L_changes N m x1 = some (r, m')) : TrW yL_changes wsL_changes 8 132 1 [q_r 0, q_i x1, q_r 108] m r m' := by
  refine trW_of (bytes := cL_changes) (maxL := 4) (ret := (some .int)) (hh := [(0, 9, 12, 32)]) (by decide) rfl (Nat.le_of_ble_eq_true rfl) (fun K hK hR => ?_)
  have hK : KOK K cL_changes 4 RL wsL_changes 8 1 132 := hK
  show AW K 0 0 [(0, q_r 0), (1, q_i x1), (2, q_r 108)] [] m
  unfold F_L_changes at hF
  refine aw_aload_n hK 2 rfl dL_changes_0 ?_
  refine aw_iconst hK (0) rfl dL_changes_1 ?_
  refine aw_aload_n hK 0 rfl dL_changes_2 ?_
  refine aw_iload_n hK 1 rfl dL_changes_3 ?_
  rcases calw_some hF with ⟨r3, m2, h1, hF⟩ | ⟨x_4, m2, h1, hF⟩
  · refine aw_cvXr hK (kwb hR) 7 (as := [q_i x1]) (trX_X7_changes h1) gL_changes_X7_changes rfl rfl rfl (by decide) (na := 1) (by decide +kernel) rfl ⟨by decide, by decide⟩ (Nat.le_of_ble_eq_true rfl) (Nat.le_of_ble_eq_true rfl) dL_changes_4 ?_
    refine aw_i2l hK dL_changes_7 ?_
    obtain ⟨g5, hF⟩ := gd_some hF
    refine aw_last hK rfl g5 dL_changes_8 ?_
    obtain ⟨m6, hm6, hF⟩ := bnd_some hF
    refine aw_mm hm6 ?_
    refine aw_goto hK 15 rfl dL_changes_9 ?_
    refine aw_iconst hK (0) rfl dL_changes_15 ?_
    obtain ⟨rfl, rfl⟩ := so_inj hF
    exact aw_iretW hK hR (Nat.le_of_ble_eq_true rfl) dL_changes_16
  · by_cases hx0 : x_4 = 2
    · have hF := if_t hF hx0
      subst hx0
      refine aw_cvWx hK hR 7 (as := [q_i x1]) (trX_X7_changes h1) gL_changes_X7_changes rfl rfl rfl (by decide) (na := 1) (by decide +kernel) rfl ⟨by decide, by decide⟩ (Nat.le_of_ble_eq_true rfl) (Nat.le_of_ble_eq_true rfl) dL_changes_4 (by decide) [] ⟨0, 9, 12, 32⟩ [] rfl (fun z hz => absurd hz List.not_mem_nil) (by decide) (by decide) (List.mem_of_getElem? (i := 1) rfl) (fun q => ?_)
      refine aw_astoreV_n hK [(3, q_v (.ref q)), (0, q_r 0), (1, q_i x1), (2, q_r 108)] (by decide) rfl dL_changes_12 ?_
      refine aw_iconst hK (1) rfl dL_changes_13 ?_
      obtain ⟨rfl, rfl⟩ := so_inj hF
      exact aw_iretW hK hR (Nat.le_of_ble_eq_true rfl) dL_changes_14
    have hF := if_f hF hx0
    cases hF
def F_L_mended (N : Nat) (m : Mem) (x1 : Int32) (x2 : Int32) : Option (Int32 × Mem) :=
  calw (F_X7_mended N m x1 x2) (fun r3 m2 =>
    gd (inb (0 : Int32) (alen 108)) <|
    bnd (mup m2 108 (ix (0 : Int32)) (r3)) fun m6 =>
    some ((0 : Int32), m6)
  ) (fun x_4 m2 =>
  if x_4 = 2 then (
    some ((1 : Int32), m2)
  ) else (
  none))
set_option maxRecDepth 100000 in
set_option maxHeartbeats 4000000 in
theorem trW_L_mended {N : Nat} {m m' : Mem} {r : Int32} {x1 : Int32} {x2 : Int32} (hF : F_L_mended N m x1 x2 = some (r, m')) : TrW yL_mended wsL_mended 8 141 2 [q_r 0, q_i x1, q_i x2, q_r 108] m r m' := by
  refine trW_of (bytes := cL_mended) (maxL := 5) (ret := (some .int)) (hh := [(0, 10, 13, 32)]) (by decide) rfl (Nat.le_of_ble_eq_true rfl) (fun K hK hR => ?_)
  have hK : KOK K cL_mended 5 RL wsL_mended 8 2 141 := hK
  show AW K 0 0 [(0, q_r 0), (1, q_i x1), (2, q_i x2), (3, q_r 108)] [] m
  unfold F_L_mended at hF
  refine aw_aload_n hK 3 rfl dL_mended_0 ?_
  refine aw_iconst hK (0) rfl dL_mended_1 ?_
  refine aw_aload_n hK 0 rfl dL_mended_2 ?_
  refine aw_iload_n hK 1 rfl dL_mended_3 ?_
  refine aw_iload_n hK 2 rfl dL_mended_4 ?_
  rcases calw_some hF with ⟨r3, m2, h1, hF⟩ | ⟨x_4, m2, h1, hF⟩
  · refine aw_cvXr hK (kwb hR) 7 (as := [q_i x1, q_i x2]) (trX_X7_mended h1) gL_mended_X7_mended rfl rfl rfl (by decide) (na := 2) (by decide +kernel) rfl ⟨by decide, by decide⟩ (Nat.le_of_ble_eq_true rfl) (Nat.le_of_ble_eq_true rfl) dL_mended_5 ?_
    refine aw_i2l hK dL_mended_8 ?_
    obtain ⟨g5, hF⟩ := gd_some hF
    refine aw_last hK rfl g5 dL_mended_9 ?_
    obtain ⟨m6, hm6, hF⟩ := bnd_some hF
    refine aw_mm hm6 ?_
    refine aw_goto hK 17 rfl dL_mended_10 ?_
    refine aw_iconst hK (0) rfl dL_mended_17 ?_
    obtain ⟨rfl, rfl⟩ := so_inj hF
    exact aw_iretW hK hR (Nat.le_of_ble_eq_true rfl) dL_mended_18
  · by_cases hx0 : x_4 = 2
    · have hF := if_t hF hx0
      subst hx0
      refine aw_cvWx hK hR 7 (as := [q_i x1, q_i x2]) (trX_X7_mended h1) gL_mended_X7_mended rfl rfl rfl (by decide) (na := 2) (by decide +kernel) rfl ⟨by decide, by decide⟩ (Nat.le_of_ble_eq_true rfl) (Nat.le_of_ble_eq_true rfl) dL_mended_5 (by decide) [] ⟨0, 10, 13, 32⟩ [] rfl (fun z hz => absurd hz List.not_mem_nil) (by decide) (by decide) (List.mem_of_getElem? (i := 1) rfl) (fun q => ?_)
      refine aw_astoreV hK [(4, q_v (.ref q)), (0, q_r 0), (1, q_i x1), (2, q_i x2), (3, q_r 108)] (by decide) rfl dL_mended_13 ?_
      refine aw_iconst hK (1) rfl dL_mended_15 ?_
      obtain ⟨rfl, rfl⟩ := so_inj hF
      exact aw_iretW hK hR (Nat.le_of_ble_eq_true rfl) dL_mended_16
    have hF := if_f hF hx0
    cases hF
def F_L_apart (N : Nat) (m : Mem) (x1 : Int32) (x2 : Int32) (x3 : Int32) : Option (Int32 × Mem) :=
  calw (F_X7_apart N m x1 x2 x3) (fun r3 m2 =>
    gd (inb (0 : Int32) (alen 108)) <|
    bnd (mup m2 108 (ix (0 : Int32)) (r3)) fun m6 =>
    some ((0 : Int32), m6)
  ) (fun x_4 m2 =>
  if x_4 = 2 then (
    some ((1 : Int32), m2)
  ) else (
  if x_4 = 1 then (
    some ((2 : Int32), m2)
  ) else (
  none)))
set_option maxRecDepth 100000 in
set_option maxHeartbeats 4000000 in
theorem trW_L_apart {N : Nat} {m m' : Mem} {r : Int32} {x1 : Int32} {x2 : Int32} {x3 : Int32} (hF : F_L_apart N m x1 x2 x3 = some (r, m')) : TrW yL_apart wsL_apart 8 134 6 [q_r 0, q_i x1, q_i x2, q_i x3, q_r 108] m r m' := by
  refine trW_of (bytes := cL_apart) (maxL := 6) (ret := (some .int)) (hh := [(0, 12, 15, 32), (0, 12, 19, 15)]) (by decide) rfl (Nat.le_of_ble_eq_true rfl) (fun K hK hR => ?_)
  have hK : KOK K cL_apart 6 RL wsL_apart 8 6 134 := hK
  show AW K 0 0 [(0, q_r 0), (1, q_i x1), (2, q_i x2), (3, q_i x3), (4, q_r 108)] [] m
  unfold F_L_apart at hF
  refine aw_aload hK 4 rfl dL_apart_0 ?_
  refine aw_iconst hK (0) rfl dL_apart_2 ?_
  refine aw_aload_n hK 0 rfl dL_apart_3 ?_
  refine aw_iload_n hK 1 rfl dL_apart_4 ?_
  refine aw_iload_n hK 2 rfl dL_apart_5 ?_
  refine aw_iload_n hK 3 rfl dL_apart_6 ?_
  rcases calw_some hF with ⟨r3, m2, h1, hF⟩ | ⟨x_4, m2, h1, hF⟩
  · refine aw_cvXr hK (kwb hR) 7 (as := [q_i x1, q_i x2, q_i x3]) (trX_X7_apart h1) gL_apart_X7_apart rfl rfl rfl (by decide) (na := 3) (by decide +kernel) rfl ⟨by decide, by decide⟩ (Nat.le_of_ble_eq_true rfl) (Nat.le_of_ble_eq_true rfl) dL_apart_7 ?_
    refine aw_i2l hK dL_apart_10 ?_
    obtain ⟨g5, hF⟩ := gd_some hF
    refine aw_last hK rfl g5 dL_apart_11 ?_
    obtain ⟨m6, hm6, hF⟩ := bnd_some hF
    refine aw_mm hm6 ?_
    refine aw_goto hK 23 rfl dL_apart_12 ?_
    refine aw_iconst hK (0) rfl dL_apart_23 ?_
    obtain ⟨rfl, rfl⟩ := so_inj hF
    exact aw_iretW hK hR (Nat.le_of_ble_eq_true rfl) dL_apart_24
  · by_cases hx0 : x_4 = 2
    · have hF := if_t hF hx0
      subst hx0
      refine aw_cvWx hK hR 7 (as := [q_i x1, q_i x2, q_i x3]) (trX_X7_apart h1) gL_apart_X7_apart rfl rfl rfl (by decide) (na := 3) (by decide +kernel) rfl ⟨by decide, by decide⟩ (Nat.le_of_ble_eq_true rfl) (Nat.le_of_ble_eq_true rfl) dL_apart_7 (by decide) [] ⟨0, 12, 15, 32⟩ [⟨0, 12, 19, 15⟩] rfl (fun z hz => absurd hz List.not_mem_nil) (by decide) (by decide) (List.mem_of_getElem? (i := 1) rfl) (fun q => ?_)
      refine aw_astoreV hK [(5, q_v (.ref q)), (0, q_r 0), (1, q_i x1), (2, q_i x2), (3, q_i x3), (4, q_r 108)] (by decide) rfl dL_apart_15 ?_
      refine aw_iconst hK (1) rfl dL_apart_17 ?_
      obtain ⟨rfl, rfl⟩ := so_inj hF
      exact aw_iretW hK hR (Nat.le_of_ble_eq_true rfl) dL_apart_18
    have hF := if_f hF hx0
    by_cases hx1 : x_4 = 1
    · have hF := if_t hF hx1
      subst hx1
      refine aw_cvWx hK hR 7 (as := [q_i x1, q_i x2, q_i x3]) (trX_X7_apart h1) gL_apart_X7_apart rfl rfl rfl (by decide) (na := 3) (by decide +kernel) rfl ⟨by decide, by decide⟩ (Nat.le_of_ble_eq_true rfl) (Nat.le_of_ble_eq_true rfl) dL_apart_7 (by decide) [⟨0, 12, 15, 32⟩] ⟨0, 12, 19, 15⟩ [] rfl (fun z hz => by rw [List.mem_singleton.mp hz]; exact Or.inr ⟨by decide, 2, by decide, by decide, (List.mem_of_getElem? (i := 1) rfl)⟩) (by decide) (by decide) (List.mem_of_getElem? (i := 2) rfl) (fun q => ?_)
      refine aw_astoreV hK [(5, q_v (.ref q)), (0, q_r 0), (1, q_i x1), (2, q_i x2), (3, q_i x3), (4, q_r 108)] (by decide) rfl dL_apart_19 ?_
      refine aw_iconst hK (2) rfl dL_apart_21 ?_
      obtain ⟨rfl, rfl⟩ := so_inj hF
      exact aw_iretW hK hR (Nat.le_of_ble_eq_true rfl) dL_apart_22
    have hF := if_f hF hx1
    cases hF
def F_L_ruled (N : Nat) (m : Mem) (x1 : Int32) (x2 : Int32) (x3 : Int32) (x4 : Int32) (x5 : Int32) : Option (Int32 × Mem) :=
  calw (F_X7_ruled N m x1 x2 x3 x4 x5) (fun r3 m2 =>
    gd (inb (0 : Int32) (alen 108)) <|
    bnd (mup m2 108 (ix (0 : Int32)) (r3)) fun m6 =>
    some ((0 : Int32), m6)
  ) (fun x_4 m2 =>
  if x_4 = 2 then (
    some ((1 : Int32), m2)
  ) else (
  if x_4 = 0 then (
    some ((2 : Int32), m2)
  ) else (
  none)))
set_option maxRecDepth 100000 in
set_option maxHeartbeats 4000000 in
theorem trW_L_ruled {N : Nat} {m m' : Mem} {r : Int32} {x1 : Int32} {x2 : Int32} {x3 : Int32} {x4 : Int32} {x5 : Int32} (hF : F_L_ruled N m x1 x2 x3 x4 x5 = some (r, m')) : TrW yL_ruled wsL_ruled 8 141 2 [q_r 0, q_i x1, q_i x2, q_i x3, q_i x4, q_i x5, q_r 108] m r m' := by
  refine trW_of (bytes := cL_ruled) (maxL := 8) (ret := (some .int)) (hh := [(0, 16, 19, 32), (0, 16, 23, 13)]) (by decide) rfl (Nat.le_of_ble_eq_true rfl) (fun K hK hR => ?_)
  have hK : KOK K cL_ruled 8 RL wsL_ruled 8 2 141 := hK
  show AW K 0 0 [(0, q_r 0), (1, q_i x1), (2, q_i x2), (3, q_i x3), (4, q_i x4), (5, q_i x5), (6, q_r 108)] [] m
  unfold F_L_ruled at hF
  refine aw_aload hK 6 rfl dL_ruled_0 ?_
  refine aw_iconst hK (0) rfl dL_ruled_2 ?_
  refine aw_aload_n hK 0 rfl dL_ruled_3 ?_
  refine aw_iload_n hK 1 rfl dL_ruled_4 ?_
  refine aw_iload_n hK 2 rfl dL_ruled_5 ?_
  refine aw_iload_n hK 3 rfl dL_ruled_6 ?_
  refine aw_iload hK 4 rfl dL_ruled_7 ?_
  refine aw_iload hK 5 rfl dL_ruled_9 ?_
  rcases calw_some hF with ⟨r3, m2, h1, hF⟩ | ⟨x_4, m2, h1, hF⟩
  · refine aw_cvXr hK (kwb hR) 7 (as := [q_i x1, q_i x2, q_i x3, q_i x4, q_i x5]) (trX_X7_ruled h1) gL_ruled_X7_ruled rfl rfl rfl (by decide) (na := 5) (by decide +kernel) rfl ⟨by decide, by decide⟩ (Nat.le_of_ble_eq_true rfl) (Nat.le_of_ble_eq_true rfl) dL_ruled_11 ?_
    refine aw_i2l hK dL_ruled_14 ?_
    obtain ⟨g5, hF⟩ := gd_some hF
    refine aw_last hK rfl g5 dL_ruled_15 ?_
    obtain ⟨m6, hm6, hF⟩ := bnd_some hF
    refine aw_mm hm6 ?_
    refine aw_goto hK 27 rfl dL_ruled_16 ?_
    refine aw_iconst hK (0) rfl dL_ruled_27 ?_
    obtain ⟨rfl, rfl⟩ := so_inj hF
    exact aw_iretW hK hR (Nat.le_of_ble_eq_true rfl) dL_ruled_28
  · by_cases hx0 : x_4 = 2
    · have hF := if_t hF hx0
      subst hx0
      refine aw_cvWx hK hR 7 (as := [q_i x1, q_i x2, q_i x3, q_i x4, q_i x5]) (trX_X7_ruled h1) gL_ruled_X7_ruled rfl rfl rfl (by decide) (na := 5) (by decide +kernel) rfl ⟨by decide, by decide⟩ (Nat.le_of_ble_eq_true rfl) (Nat.le_of_ble_eq_true rfl) dL_ruled_11 (by decide) [] ⟨0, 16, 19, 32⟩ [⟨0, 16, 23, 13⟩] rfl (fun z hz => absurd hz List.not_mem_nil) (by decide) (by decide) (List.mem_of_getElem? (i := 1) rfl) (fun q => ?_)
      refine aw_astoreV hK [(7, q_v (.ref q)), (0, q_r 0), (1, q_i x1), (2, q_i x2), (3, q_i x3), (4, q_i x4), (5, q_i x5), (6, q_r 108)] (by decide) rfl dL_ruled_19 ?_
      refine aw_iconst hK (1) rfl dL_ruled_21 ?_
      obtain ⟨rfl, rfl⟩ := so_inj hF
      exact aw_iretW hK hR (Nat.le_of_ble_eq_true rfl) dL_ruled_22
    have hF := if_f hF hx0
    by_cases hx1 : x_4 = 0
    · have hF := if_t hF hx1
      subst hx1
      refine aw_cvWx hK hR 7 (as := [q_i x1, q_i x2, q_i x3, q_i x4, q_i x5]) (trX_X7_ruled h1) gL_ruled_X7_ruled rfl rfl rfl (by decide) (na := 5) (by decide +kernel) rfl ⟨by decide, by decide⟩ (Nat.le_of_ble_eq_true rfl) (Nat.le_of_ble_eq_true rfl) dL_ruled_11 (by decide) [⟨0, 16, 19, 32⟩] ⟨0, 16, 23, 13⟩ [] rfl (fun z hz => by rw [List.mem_singleton.mp hz]; exact Or.inr ⟨by decide, 2, by decide, by decide, (List.mem_of_getElem? (i := 1) rfl)⟩) (by decide) (by decide) (List.mem_of_getElem? (i := 2) rfl) (fun q => ?_)
      refine aw_astoreV hK [(7, q_v (.ref q)), (0, q_r 0), (1, q_i x1), (2, q_i x2), (3, q_i x3), (4, q_i x4), (5, q_i x5), (6, q_r 108)] (by decide) rfl dL_ruled_23 ?_
      refine aw_iconst hK (2) rfl dL_ruled_25 ?_
      obtain ⟨rfl, rfl⟩ := so_inj hF
      exact aw_iretW hK hR (Nat.le_of_ble_eq_true rfl) dL_ruled_26
    have hF := if_f hF hx1
    cases hF
def F_L_learn (N : Nat) (m : Mem) (x1 : Int32) : Option (Int32 × Mem) :=
  calw (F_X7_learn N m x1) (fun r3 m2 =>
    gd (inb (0 : Int32) (alen 108)) <|
    bnd (mup m2 108 (ix (0 : Int32)) (r3)) fun m6 =>
    some ((0 : Int32), m6)
  ) (fun x_4 m2 =>
  if x_4 = 0 then (
    some ((1 : Int32), m2)
  ) else (
  if x_4 = 1 then (
    some ((2 : Int32), m2)
  ) else (
  none)))
set_option maxRecDepth 100000 in
set_option maxHeartbeats 4000000 in
theorem trW_L_learn {N : Nat} {m m' : Mem} {r : Int32} {x1 : Int32} (hF : F_L_learn N m x1 = some (r, m')) : TrW yL_learn wsL_learn 7 111 1 [q_r 0, q_i x1, q_r 108] m r m' := by
  refine trW_of (bytes := cL_learn) (maxL := 4) (ret := (some .int)) (hh := [(0, 9, 12, 13), (0, 9, 15, 15)]) (by decide) rfl (Nat.le_of_ble_eq_true rfl) (fun K hK hR => ?_)
  have hK : KOK K cL_learn 4 RL wsL_learn 7 1 111 := hK
  show AW K 0 0 [(0, q_r 0), (1, q_i x1), (2, q_r 108)] [] m
  unfold F_L_learn at hF
  refine aw_aload_n hK 2 rfl dL_learn_0 ?_
  refine aw_iconst hK (0) rfl dL_learn_1 ?_
  refine aw_aload_n hK 0 rfl dL_learn_2 ?_
  refine aw_iload_n hK 1 rfl dL_learn_3 ?_
  rcases calw_some hF with ⟨r3, m2, h1, hF⟩ | ⟨x_4, m2, h1, hF⟩
  · refine aw_cvXr hK (kwb hR) 7 (as := [q_i x1]) (trX_X7_learn h1) gL_learn_X7_learn rfl rfl rfl (by decide) (na := 1) (by decide +kernel) rfl ⟨by decide, by decide⟩ (Nat.le_of_ble_eq_true rfl) (Nat.le_of_ble_eq_true rfl) dL_learn_4 ?_
    refine aw_i2l hK dL_learn_7 ?_
    obtain ⟨g5, hF⟩ := gd_some hF
    refine aw_last hK rfl g5 dL_learn_8 ?_
    obtain ⟨m6, hm6, hF⟩ := bnd_some hF
    refine aw_mm hm6 ?_
    refine aw_goto hK 18 rfl dL_learn_9 ?_
    refine aw_iconst hK (0) rfl dL_learn_18 ?_
    obtain ⟨rfl, rfl⟩ := so_inj hF
    exact aw_iretW hK hR (Nat.le_of_ble_eq_true rfl) dL_learn_19
  · by_cases hx0 : x_4 = 0
    · have hF := if_t hF hx0
      subst hx0
      refine aw_cvWx hK hR 7 (as := [q_i x1]) (trX_X7_learn h1) gL_learn_X7_learn rfl rfl rfl (by decide) (na := 1) (by decide +kernel) rfl ⟨by decide, by decide⟩ (Nat.le_of_ble_eq_true rfl) (Nat.le_of_ble_eq_true rfl) dL_learn_4 (by decide) [] ⟨0, 9, 12, 13⟩ [⟨0, 9, 15, 15⟩] rfl (fun z hz => absurd hz List.not_mem_nil) (by decide) (by decide) (List.mem_of_getElem? (i := 1) rfl) (fun q => ?_)
      refine aw_astoreV_n hK [(3, q_v (.ref q)), (0, q_r 0), (1, q_i x1), (2, q_r 108)] (by decide) rfl dL_learn_12 ?_
      refine aw_iconst hK (1) rfl dL_learn_13 ?_
      obtain ⟨rfl, rfl⟩ := so_inj hF
      exact aw_iretW hK hR (Nat.le_of_ble_eq_true rfl) dL_learn_14
    have hF := if_f hF hx0
    by_cases hx1 : x_4 = 1
    · have hF := if_t hF hx1
      subst hx1
      refine aw_cvWx hK hR 7 (as := [q_i x1]) (trX_X7_learn h1) gL_learn_X7_learn rfl rfl rfl (by decide) (na := 1) (by decide +kernel) rfl ⟨by decide, by decide⟩ (Nat.le_of_ble_eq_true rfl) (Nat.le_of_ble_eq_true rfl) dL_learn_4 (by decide) [⟨0, 9, 12, 13⟩] ⟨0, 9, 15, 15⟩ [] rfl (fun z hz => by rw [List.mem_singleton.mp hz]; exact Or.inr ⟨by decide, 0, by decide, by decide, (List.mem_of_getElem? (i := 1) rfl)⟩) (by decide) (by decide) (List.mem_of_getElem? (i := 2) rfl) (fun q => ?_)
      refine aw_astoreV_n hK [(3, q_v (.ref q)), (0, q_r 0), (1, q_i x1), (2, q_r 108)] (by decide) rfl dL_learn_15 ?_
      refine aw_iconst hK (2) rfl dL_learn_16 ?_
      obtain ⟨rfl, rfl⟩ := so_inj hF
      exact aw_iretW hK hR (Nat.le_of_ble_eq_true rfl) dL_learn_17
    have hF := if_f hF hx1
    cases hF