def B_L_isBack_369 (N : Nat) (m : Mem) (x8 : Int32) : Option (Int32 × Mem) :=
  gd (isb x8) <|
  some (x8, m)
set_option maxRecDepth 100000 in
set_option maxHeartbeats 4000000 in
theorem bk_L_isBack_369 {N : Nat} {K : KT} {m' : Mem} {r : Int32} (hK : KOK K cL_isBack 14 RL wsL_isBack 10 1 215) (hR : KRb K r m' 1) (hT : KTo K) {m : Mem} {x8 : Int32} (hF : B_L_isBack_369 N m x8 = some (r, m')) : AW K 1 369 [(8, q_i x8)] [] m := by
  unfold B_L_isBack_369 at hF
  refine aw_iload hK 0 rfl dL_isBack_369 ?_
  obtain ⟨g40, hF⟩ := gd_some hF
  obtain ⟨rfl, rfl⟩ := so_inj hF
  exact aw_iretB hK hR (isb_narrow g40) (by decide) dL_isBack_371
def B_L_isBack_361 (N : Nat) (rec_322 : Mem → Int32 → Int32 → Int32 → Option (Int32 × Mem)) (m : Mem) (x5 : Int32) (x11 : Int32) (s0 : Int32) : Option (Int32 × Mem) :=
  bnd (x11 + (1 : Int32)) fun y39 =>
  rec_322 m x5 s0 y39
set_option maxRecDepth 100000 in
set_option maxHeartbeats 4000000 in
theorem bk_L_isBack_361 {N : Nat} {K : KT} {m' : Mem} {rec_322 : Mem → Int32 → Int32 → Int32 → Option (Int32 × Mem)} {r : Int32} (hK : KOK K cL_isBack 14 RL wsL_isBack 10 1 215) (hR : KRb K r m' 1) (hT : KTo K) (hrec_322 : ∀ {m : Mem} {x5 : Int32} {x8 : Int32} {x11 : Int32}, rec_322 m x5 x8 x11 = some (r, m') → AW K 1 322 [(0, q_r 0), (4, q_r 70), (5, q_i x5), (8, q_i x8), (11, q_i x11)] [] m) {m : Mem} {x5 : Int32} {x11 : Int32} {s0 : Int32} (hF : B_L_isBack_361 N rec_322 m x5 x11 s0 = some (r, m')) : AW K 1 361 [(0, q_r 0), (4, q_r 70), (5, q_i x5), (11, q_i x11)] [q_i s0] m := by
  unfold B_L_isBack_361 at hF
  refine aw_istore hK [(8, q_i s0), (0, q_r 0), (4, q_r 70), (5, q_i x5), (11, q_i x11)] (by decide) rfl dL_isBack_361 ?_
  obtain ⟨y39, hy39, hF⟩ := bnd_some hF
  refine aw_iinc hK (cz := 1) 4 [(11, q_i y39), (8, q_i s0), (0, q_r 0), (4, q_r 70), (5, q_i x5)] (by decide) rfl rfl hy39 rfl dL_isBack_363 ?_
  refine aw_goto hK 322 rfl dL_isBack_366 ?_
  refine aw_sub [2, 3, 4, 1, 0] (lv' := [(0, q_r 0), (4, q_r 70), (5, q_i x5), (8, q_i s0), (11, q_i y39)]) rfl ?_
  exact hrec_322 hF
def S_L_isBack_322 (N : Nat) (rec_322 : Mem → Int32 → Int32 → Int32 → Option (Int32 × Mem)) (m : Mem) (x5 : Int32) (x8 : Int32) (x11 : Int32) : Option (Int32 × Mem) :=
  if x5 ≤ x11 then (
    B_L_isBack_369 N m x8
  ) else (
    if x8 = (0 : Int32) then (
      B_L_isBack_369 N m x8
    ) else (
      gd (inb x11 (alen 70)) <|
      calL (F_L_asks N m (13 : Int32) (m 70 (ix x11)) (0 : Int32) (0 : Int32) (0 : Int32) (0 : Int32)) fun r38 m37 =>
      if r38 = (x11 + (1 : Int32)) then (
        B_L_isBack_361 N rec_322 m37 x5 x11 (1 : Int32)
      ) else (
        B_L_isBack_361 N rec_322 m37 x5 x11 (0 : Int32)
      )
    )
  )
def L_L_isBack_322 (N : Nat) : Nat → Mem → Int32 → Int32 → Int32 → Option (Int32 × Mem)
  | 0 => fun _ _ _ _ => none
  | f + 1 => S_L_isBack_322 N (L_L_isBack_322 N f)
set_option maxRecDepth 100000 in
set_option maxHeartbeats 4000000 in
theorem lp_L_isBack_322 {N : Nat} {K : KT} {m' : Mem} {r : Int32} (hK : KOK K cL_isBack 14 RL wsL_isBack 10 1 215) (hR : KRb K r m' 1) (hT : KTo K) : ∀ (f : Nat) {m : Mem} {x5 : Int32} {x8 : Int32} {x11 : Int32}, L_L_isBack_322 N f m x5 x8 x11 = some (r, m') → AW K 1 322 [(0, q_r 0), (4, q_r 70), (5, q_i x5), (8, q_i x8), (11, q_i x11)] [] m := by
  intro f
  induction f with
  | zero => intro m x5 x8 x11 hF; cases hF
  | succ f hrec_322 =>
    intro m x5 x8 x11 hF
    have hF : S_L_isBack_322 N (L_L_isBack_322 N f) m x5 x8 x11 = some (r, m') := hF
    unfold S_L_isBack_322 at hF
    refine aw_iload hK 4 rfl dL_isBack_322 ?_
    refine aw_iload hK 2 rfl dL_isBack_324 ?_
    refine aw_icmp_ge hK 369 rfl dL_isBack_326 (fun hc => ?_) (fun hc => ?_)
    · have hF := if_t hF hc
      refine aw_sub [3] (lv' := [(8, q_i x8)]) rfl ?_
      exact bk_L_isBack_369 hK hR hT hF
    · have hF := if_f hF hc
      refine aw_iload hK 3 rfl dL_isBack_329 ?_
      refine aw_if_eq hK 369 rfl dL_isBack_331 (fun hc => ?_) (fun hc => ?_)
      · have hF := if_t hF hc
        refine aw_sub [3] (lv' := [(8, q_i x8)]) rfl ?_
        exact bk_L_isBack_369 hK hR hT hF
      · have hF := if_f hF hc
        refine aw_aload_n hK 0 rfl dL_isBack_334 ?_
        refine aw_bipush hK (13) rfl dL_isBack_335 ?_
        refine aw_aload hK 1 rfl dL_isBack_337 ?_
        refine aw_iload hK 4 rfl dL_isBack_339 ?_
        obtain ⟨g35, hF⟩ := gd_some hF
        refine aw_iald hK rfl g35 dL_isBack_341 ?_
        refine aw_iconst hK (0) rfl dL_isBack_342 ?_
        refine aw_iconst hK (0) rfl dL_isBack_343 ?_
        refine aw_iconst hK (0) rfl dL_isBack_344 ?_
        refine aw_iconst hK (0) rfl dL_isBack_345 ?_
        obtain ⟨r38, m37, h36, hF⟩ := calL_some hF
        refine aw_csW0 hK (as := [q_r 0, q_i (13 : Int32), q_i (m 70 (ix x11)), q_i (0 : Int32), q_i (0 : Int32), q_i (0 : Int32), q_i (0 : Int32)]) (trN_L_on h36) gL_isBack_L_on rfl (na := 7) (by decide +kernel) rfl ⟨by decide, by decide⟩ (Nat.le_of_ble_eq_true rfl) (Nat.le_of_ble_eq_true rfl) dL_isBack_346 ?_
        refine aw_iload hK 4 rfl dL_isBack_349 ?_
        refine aw_iconst hK (1) rfl dL_isBack_351 ?_
        refine aw_iadd hK dL_isBack_352 ?_
        refine aw_icmp_ne hK 360 rfl dL_isBack_353 (fun hc => ?_) (fun hc => ?_)
        · have hF := if_f hF hc
          refine aw_iconst hK (0) rfl dL_isBack_360 ?_
          refine aw_sub [0, 1, 2, 4] (lv' := [(0, q_r 0), (4, q_r 70), (5, q_i x5), (11, q_i x11)]) rfl ?_
          exact bk_L_isBack_361 hK hR hT hrec_322 hF
        · have hF := if_t hF hc
          refine aw_iconst hK (1) rfl dL_isBack_356 ?_
          refine aw_goto hK 361 rfl dL_isBack_357 ?_
          refine aw_sub [0, 1, 2, 4] (lv' := [(0, q_r 0), (4, q_r 70), (5, q_i x5), (11, q_i x11)]) rfl ?_
          exact bk_L_isBack_361 hK hR hT hrec_322 hF
def B_L_isBack_317 (N : Nat) (m : Mem) (x5 : Int32) (s0 : Int32) : Option (Int32 × Mem) :=
  L_L_isBack_322 N N m x5 s0 (0 : Int32)
set_option maxRecDepth 100000 in
set_option maxHeartbeats 4000000 in
theorem bk_L_isBack_317 {N : Nat} {K : KT} {m' : Mem} {r : Int32} (hK : KOK K cL_isBack 14 RL wsL_isBack 10 1 215) (hR : KRb K r m' 1) (hT : KTo K) {m : Mem} {x5 : Int32} {s0 : Int32} (hF : B_L_isBack_317 N m x5 s0 = some (r, m')) : AW K 1 317 [(0, q_r 0), (4, q_r 70), (5, q_i x5)] [q_i s0] m := by
  unfold B_L_isBack_317 at hF
  refine aw_istore hK [(8, q_i s0), (0, q_r 0), (4, q_r 70), (5, q_i x5)] (by decide) rfl dL_isBack_317 ?_
  refine aw_iconst hK (0) rfl dL_isBack_319 ?_
  refine aw_istore hK [(11, q_i (0 : Int32)), (8, q_i s0), (0, q_r 0), (4, q_r 70), (5, q_i x5)] (by decide) rfl dL_isBack_320 ?_
  refine aw_sub [2, 3, 4, 1, 0] (lv' := [(0, q_r 0), (4, q_r 70), (5, q_i x5), (8, q_i s0), (11, q_i (0 : Int32))]) rfl ?_
  exact lp_L_isBack_322 hK hR hT _ hF
def B_L_isBack_316 (N : Nat) (m : Mem) (x5 : Int32) : Option (Int32 × Mem) :=
  B_L_isBack_317 N m x5 (0 : Int32)
set_option maxRecDepth 100000 in
set_option maxHeartbeats 4000000 in
theorem bk_L_isBack_316 {N : Nat} {K : KT} {m' : Mem} {r : Int32} (hK : KOK K cL_isBack 14 RL wsL_isBack 10 1 215) (hR : KRb K r m' 1) (hT : KTo K) {m : Mem} {x5 : Int32} (hF : B_L_isBack_316 N m x5 = some (r, m')) : AW K 1 316 [(0, q_r 0), (4, q_r 70), (5, q_i x5)] [] m := by
  unfold B_L_isBack_316 at hF
  refine aw_iconst hK (0) rfl dL_isBack_316 ?_
  refine aw_sub [0, 1, 2] (lv' := [(0, q_r 0), (4, q_r 70), (5, q_i x5)]) rfl ?_
  exact bk_L_isBack_317 hK hR hT hF
def B_L_isBack_293 (N : Nat) (m : Mem) (x5 : Int32) (x7 : Int32) (x8 : Int32) (x10 : Int32) : Option (Int32 × Mem) :=
  if x8 = (0 : Int32) then (
    B_L_isBack_316 N m x5
  ) else (
    if x10 = (0 : Int32) then (
      B_L_isBack_316 N m x5
    ) else (
      cal (F_X7_clear N m) fun r34 m33 =>
      if r34 = x7 then (
        B_L_isBack_317 N m33 x5 (1 : Int32)
      ) else (
        B_L_isBack_316 N m33 x5
      )
    )
  )
set_option maxRecDepth 100000 in
set_option maxHeartbeats 4000000 in
theorem bk_L_isBack_293 {N : Nat} {K : KT} {m' : Mem} {r : Int32} (hK : KOK K cL_isBack 14 RL wsL_isBack 10 1 215) (hR : KRb K r m' 1) (hT : KTo K) {m : Mem} {x5 : Int32} {x7 : Int32} {x8 : Int32} {x10 : Int32} (hF : B_L_isBack_293 N m x5 x7 x8 x10 = some (r, m')) : AW K 1 293 [(0, q_r 0), (4, q_r 70), (5, q_i x5), (7, q_i x7), (8, q_i x8), (10, q_i x10)] [] m := by
  unfold B_L_isBack_293 at hF
  refine aw_iload hK 4 rfl dL_isBack_293 ?_
  refine aw_if_eq hK 316 rfl dL_isBack_295 (fun hc => ?_) (fun hc => ?_)
  · have hF := if_t hF hc
    refine aw_sub [0, 1, 2] (lv' := [(0, q_r 0), (4, q_r 70), (5, q_i x5)]) rfl ?_
    exact bk_L_isBack_316 hK hR hT hF
  · have hF := if_f hF hc
    refine aw_iload hK 5 rfl dL_isBack_298 ?_
    refine aw_if_eq hK 316 rfl dL_isBack_300 (fun hc => ?_) (fun hc => ?_)
    · have hF := if_t hF hc
      refine aw_sub [0, 1, 2] (lv' := [(0, q_r 0), (4, q_r 70), (5, q_i x5)]) rfl ?_
      exact bk_L_isBack_316 hK hR hT hF
    · have hF := if_f hF hc
      refine aw_aload_n hK 0 rfl dL_isBack_303 ?_
      obtain ⟨r34, m33, h32, hF⟩ := cal_some hF
      refine aw_cv hK 7 (as := []) (tr_X7_clear h32) gL_isBack_X7_clear rfl rfl rfl (by decide) (na := 0) (by decide +kernel) rfl ⟨by decide, by decide⟩ (Nat.le_of_ble_eq_true rfl) (Nat.le_of_ble_eq_true rfl) dL_isBack_304 ?_
      refine aw_iload hK 3 rfl dL_isBack_307 ?_
      refine aw_icmp_ne hK 316 rfl dL_isBack_309 (fun hc => ?_) (fun hc => ?_)
      · have hF := if_f hF hc
        refine aw_sub [0, 1, 2] (lv' := [(0, q_r 0), (4, q_r 70), (5, q_i x5)]) rfl ?_
        exact bk_L_isBack_316 hK hR hT hF
      · have hF := if_t hF hc
        refine aw_iconst hK (1) rfl dL_isBack_312 ?_
        refine aw_goto hK 317 rfl dL_isBack_313 ?_
        refine aw_sub [0, 1, 2] (lv' := [(0, q_r 0), (4, q_r 70), (5, q_i x5)]) rfl ?_
        exact bk_L_isBack_317 hK hR hT hF
def B_L_isBack_285 (N : Nat) (rec_174 : Mem → Int32 → Int32 → Int32 → Int32 → Int32 → Int32 → Int32 → Int32 → Option (Int32 × Mem)) (m : Mem) (x1 : Int32) (x2 : Int32) (x5 : Int32) (x7 : Int32) (x8 : Int32) (x9 : Int32) (x11 : Int32) (s0 : Int32) : Option (Int32 × Mem) :=
  bnd (x11 + (1 : Int32)) fun y31 =>
  rec_174 m x1 x2 x5 x7 x8 x9 s0 y31
set_option maxRecDepth 100000 in
set_option maxHeartbeats 4000000 in
theorem bk_L_isBack_285 {N : Nat} {K : KT} {m' : Mem} {rec_174 : Mem → Int32 → Int32 → Int32 → Int32 → Int32 → Int32 → Int32 → Int32 → Option (Int32 × Mem)} {r : Int32} (hK : KOK K cL_isBack 14 RL wsL_isBack 10 1 215) (hR : KRb K r m' 1) (hT : KTo K) (hrec_174 : ∀ {m : Mem} {x1 : Int32} {x2 : Int32} {x5 : Int32} {x7 : Int32} {x8 : Int32} {x9 : Int32} {x10 : Int32} {x11 : Int32}, rec_174 m x1 x2 x5 x7 x8 x9 x10 x11 = some (r, m') → AW K 1 174 [(0, q_r 0), (1, q_i x1), (2, q_i x2), (4, q_r 70), (5, q_i x5), (7, q_i x7), (8, q_i x8), (9, q_i x9), (10, q_i x10), (11, q_i x11)] [] m) {m : Mem} {x1 : Int32} {x2 : Int32} {x5 : Int32} {x7 : Int32} {x8 : Int32} {x9 : Int32} {x11 : Int32} {s0 : Int32} (hF : B_L_isBack_285 N rec_174 m x1 x2 x5 x7 x8 x9 x11 s0 = some (r, m')) : AW K 1 285 [(0, q_r 0), (1, q_i x1), (2, q_i x2), (4, q_r 70), (5, q_i x5), (7, q_i x7), (8, q_i x8), (9, q_i x9), (11, q_i x11)] [q_i s0] m := by
  unfold B_L_isBack_285 at hF
  refine aw_istore hK [(10, q_i s0), (0, q_r 0), (1, q_i x1), (2, q_i x2), (4, q_r 70), (5, q_i x5), (7, q_i x7), (8, q_i x8), (9, q_i x9), (11, q_i x11)] (by decide) rfl dL_isBack_285 ?_
  obtain ⟨y31, hy31, hF⟩ := bnd_some hF
  refine aw_iinc hK (cz := 1) 9 [(11, q_i y31), (10, q_i s0), (0, q_r 0), (1, q_i x1), (2, q_i x2), (4, q_r 70), (5, q_i x5), (7, q_i x7), (8, q_i x8), (9, q_i x9)] (by decide) rfl rfl hy31 rfl dL_isBack_287 ?_
  refine aw_goto hK 174 rfl dL_isBack_290 ?_
  refine aw_sub [2, 3, 4, 5, 6, 7, 8, 9, 1, 0] (lv' := [(0, q_r 0), (1, q_i x1), (2, q_i x2), (4, q_r 70), (5, q_i x5), (7, q_i x7), (8, q_i x8), (9, q_i x9), (10, q_i s0), (11, q_i y31)]) rfl ?_
  exact hrec_174 hF
def B_L_isBack_280 (N : Nat) (rec_174 : Mem → Int32 → Int32 → Int32 → Int32 → Int32 → Int32 → Int32 → Int32 → Option (Int32 × Mem)) (m : Mem) (x1 : Int32) (x2 : Int32) (x5 : Int32) (x7 : Int32) (x8 : Int32) (x9 : Int32) (x11 : Int32) : Option (Int32 × Mem) :=
  B_L_isBack_285 N rec_174 m x1 x2 x5 x7 x8 x9 x11 (1 : Int32)
set_option maxRecDepth 100000 in
set_option maxHeartbeats 4000000 in
theorem bk_L_isBack_280 {N : Nat} {K : KT} {m' : Mem} {rec_174 : Mem → Int32 → Int32 → Int32 → Int32 → Int32 → Int32 → Int32 → Int32 → Option (Int32 × Mem)} {r : Int32} (hK : KOK K cL_isBack 14 RL wsL_isBack 10 1 215) (hR : KRb K r m' 1) (hT : KTo K) (hrec_174 : ∀ {m : Mem} {x1 : Int32} {x2 : Int32} {x5 : Int32} {x7 : Int32} {x8 : Int32} {x9 : Int32} {x10 : Int32} {x11 : Int32}, rec_174 m x1 x2 x5 x7 x8 x9 x10 x11 = some (r, m') → AW K 1 174 [(0, q_r 0), (1, q_i x1), (2, q_i x2), (4, q_r 70), (5, q_i x5), (7, q_i x7), (8, q_i x8), (9, q_i x9), (10, q_i x10), (11, q_i x11)] [] m) {m : Mem} {x1 : Int32} {x2 : Int32} {x5 : Int32} {x7 : Int32} {x8 : Int32} {x9 : Int32} {x11 : Int32} (hF : B_L_isBack_280 N rec_174 m x1 x2 x5 x7 x8 x9 x11 = some (r, m')) : AW K 1 280 [(0, q_r 0), (1, q_i x1), (2, q_i x2), (4, q_r 70), (5, q_i x5), (7, q_i x7), (8, q_i x8), (9, q_i x9), (11, q_i x11)] [] m := by
  unfold B_L_isBack_280 at hF
  refine aw_iconst hK (1) rfl dL_isBack_280 ?_
  refine aw_goto hK 285 rfl dL_isBack_281 ?_
  refine aw_sub [0, 1, 2, 3, 4, 5, 6, 7, 8] (lv' := [(0, q_r 0), (1, q_i x1), (2, q_i x2), (4, q_r 70), (5, q_i x5), (7, q_i x7), (8, q_i x8), (9, q_i x9), (11, q_i x11)]) rfl ?_
  exact bk_L_isBack_285 hK hR hT hrec_174 hF
def B_L_isBack_270 (N : Nat) (rec_174 : Mem → Int32 → Int32 → Int32 → Int32 → Int32 → Int32 → Int32 → Int32 → Option (Int32 × Mem)) (m : Mem) (x1 : Int32) (x2 : Int32) (x5 : Int32) (x7 : Int32) (x8 : Int32) (x9 : Int32) (x10 : Int32) (x11 : Int32) (x12 : Int32) : Option (Int32 × Mem) :=
  if x10 = (0 : Int32) then (
    if x12 = (0 : Int32) then (
      B_L_isBack_285 N rec_174 m x1 x2 x5 x7 x8 x9 x11 (0 : Int32)
    ) else (
      B_L_isBack_280 N rec_174 m x1 x2 x5 x7 x8 x9 x11
    )
  ) else (
    B_L_isBack_280 N rec_174 m x1 x2 x5 x7 x8 x9 x11
  )
set_option maxRecDepth 100000 in
set_option maxHeartbeats 4000000 in
theorem bk_L_isBack_270 {N : Nat} {K : KT} {m' : Mem} {rec_174 : Mem → Int32 → Int32 → Int32 → Int32 → Int32 → Int32 → Int32 → Int32 → Option (Int32 × Mem)} {r : Int32} (hK : KOK K cL_isBack 14 RL wsL_isBack 10 1 215) (hR : KRb K r m' 1) (hT : KTo K) (hrec_174 : ∀ {m : Mem} {x1 : Int32} {x2 : Int32} {x5 : Int32} {x7 : Int32} {x8 : Int32} {x9 : Int32} {x10 : Int32} {x11 : Int32}, rec_174 m x1 x2 x5 x7 x8 x9 x10 x11 = some (r, m') → AW K 1 174 [(0, q_r 0), (1, q_i x1), (2, q_i x2), (4, q_r 70), (5, q_i x5), (7, q_i x7), (8, q_i x8), (9, q_i x9), (10, q_i x10), (11, q_i x11)] [] m) {m : Mem} {x1 : Int32} {x2 : Int32} {x5 : Int32} {x7 : Int32} {x8 : Int32} {x9 : Int32} {x10 : Int32} {x11 : Int32} {x12 : Int32} (hF : B_L_isBack_270 N rec_174 m x1 x2 x5 x7 x8 x9 x10 x11 x12 = some (r, m')) : AW K 1 270 [(0, q_r 0), (1, q_i x1), (2, q_i x2), (4, q_r 70), (5, q_i x5), (7, q_i x7), (8, q_i x8), (9, q_i x9), (10, q_i x10), (11, q_i x11), (12, q_i x12)] [] m := by
  unfold B_L_isBack_270 at hF
  refine aw_iload hK 8 rfl dL_isBack_270 ?_
  refine aw_if_ne hK 280 rfl dL_isBack_272 (fun hc => ?_) (fun hc => ?_)
  · have hF := if_f hF hc
    refine aw_sub [0, 1, 2, 3, 4, 5, 6, 7, 9] (lv' := [(0, q_r 0), (1, q_i x1), (2, q_i x2), (4, q_r 70), (5, q_i x5), (7, q_i x7), (8, q_i x8), (9, q_i x9), (11, q_i x11)]) rfl ?_
    exact bk_L_isBack_280 hK hR hT hrec_174 hF
  · have hF := if_t hF hc
    refine aw_iload hK 10 rfl dL_isBack_275 ?_
    refine aw_if_eq hK 284 rfl dL_isBack_277 (fun hc => ?_) (fun hc => ?_)
    · have hF := if_t hF hc
      refine aw_iconst hK (0) rfl dL_isBack_284 ?_
      refine aw_sub [0, 1, 2, 3, 4, 5, 6, 7, 9] (lv' := [(0, q_r 0), (1, q_i x1), (2, q_i x2), (4, q_r 70), (5, q_i x5), (7, q_i x7), (8, q_i x8), (9, q_i x9), (11, q_i x11)]) rfl ?_
      exact bk_L_isBack_285 hK hR hT hrec_174 hF
    · have hF := if_f hF hc
      refine aw_sub [0, 1, 2, 3, 4, 5, 6, 7, 9] (lv' := [(0, q_r 0), (1, q_i x1), (2, q_i x2), (4, q_r 70), (5, q_i x5), (7, q_i x7), (8, q_i x8), (9, q_i x9), (11, q_i x11)]) rfl ?_
      exact bk_L_isBack_280 hK hR hT hrec_174 hF
def B_L_isBack_262 (N : Nat) (rec_174 : Mem → Int32 → Int32 → Int32 → Int32 → Int32 → Int32 → Int32 → Int32 → Option (Int32 × Mem)) (rec_219 : Mem → Int32 → Int32 → Int32 → Int32 → Int32 → Int32 → Int32 → Int32 → Int32 → Int32 → Option (Int32 × Mem)) (m : Mem) (x1 : Int32) (x2 : Int32) (x5 : Int32) (x7 : Int32) (x8 : Int32) (x9 : Int32) (x10 : Int32) (x11 : Int32) (x13 : Int32) (s0 : Int32) : Option (Int32 × Mem) :=
  bnd (x13 + (1 : Int32)) fun y30 =>
  rec_219 m x1 x2 x5 x7 x8 x9 x10 x11 s0 y30
set_option maxRecDepth 100000 in
set_option maxHeartbeats 4000000 in
theorem bk_L_isBack_262 {N : Nat} {K : KT} {m' : Mem} {rec_174 : Mem → Int32 → Int32 → Int32 → Int32 → Int32 → Int32 → Int32 → Int32 → Option (Int32 × Mem)} {rec_219 : Mem → Int32 → Int32 → Int32 → Int32 → Int32 → Int32 → Int32 → Int32 → Int32 → Int32 → Option (Int32 × Mem)} {r : Int32} (hK : KOK K cL_isBack 14 RL wsL_isBack 10 1 215) (hR : KRb K r m' 1) (hT : KTo K) (hrec_174 : ∀ {m : Mem} {x1 : Int32} {x2 : Int32} {x5 : Int32} {x7 : Int32} {x8 : Int32} {x9 : Int32} {x10 : Int32} {x11 : Int32}, rec_174 m x1 x2 x5 x7 x8 x9 x10 x11 = some (r, m') → AW K 1 174 [(0, q_r 0), (1, q_i x1), (2, q_i x2), (4, q_r 70), (5, q_i x5), (7, q_i x7), (8, q_i x8), (9, q_i x9), (10, q_i x10), (11, q_i x11)] [] m) (hrec_219 : ∀ {m : Mem} {x1 : Int32} {x2 : Int32} {x5 : Int32} {x7 : Int32} {x8 : Int32} {x9 : Int32} {x10 : Int32} {x11 : Int32} {x12 : Int32} {x13 : Int32}, rec_219 m x1 x2 x5 x7 x8 x9 x10 x11 x12 x13 = some (r, m') → AW K 1 219 [(0, q_r 0), (1, q_i x1), (2, q_i x2), (4, q_r 70), (5, q_i x5), (7, q_i x7), (8, q_i x8), (9, q_i x9), (10, q_i x10), (11, q_i x11), (12, q_i x12), (13, q_i x13)] [] m) {m : Mem} {x1 : Int32} {x2 : Int32} {x5 : Int32} {x7 : Int32} {x8 : Int32} {x9 : Int32} {x10 : Int32} {x11 : Int32} {x13 : Int32} {s0 : Int32} (hF : B_L_isBack_262 N rec_174 rec_219 m x1 x2 x5 x7 x8 x9 x10 x11 x13 s0 = some (r, m')) : AW K 1 262 [(0, q_r 0), (1, q_i x1), (2, q_i x2), (4, q_r 70), (5, q_i x5), (7, q_i x7), (8, q_i x8), (9, q_i x9), (10, q_i x10), (11, q_i x11), (13, q_i x13)] [q_i s0] m := by
  unfold B_L_isBack_262 at hF
  refine aw_istore hK [(12, q_i s0), (0, q_r 0), (1, q_i x1), (2, q_i x2), (4, q_r 70), (5, q_i x5), (7, q_i x7), (8, q_i x8), (9, q_i x9), (10, q_i x10), (11, q_i x11), (13, q_i x13)] (by decide) rfl dL_isBack_262 ?_
  obtain ⟨y30, hy30, hF⟩ := bnd_some hF
  refine aw_iinc hK (cz := 1) 11 [(13, q_i y30), (12, q_i s0), (0, q_r 0), (1, q_i x1), (2, q_i x2), (4, q_r 70), (5, q_i x5), (7, q_i x7), (8, q_i x8), (9, q_i x9), (10, q_i x10), (11, q_i x11)] (by decide) rfl rfl hy30 rfl dL_isBack_264 ?_
  refine aw_goto hK 219 rfl dL_isBack_267 ?_
  refine aw_sub [2, 3, 4, 5, 6, 7, 8, 9, 10, 11, 1, 0] (lv' := [(0, q_r 0), (1, q_i x1), (2, q_i x2), (4, q_r 70), (5, q_i x5), (7, q_i x7), (8, q_i x8), (9, q_i x9), (10, q_i x10), (11, q_i x11), (12, q_i s0), (13, q_i y30)]) rfl ?_
  exact hrec_219 hF
def B_L_isBack_242 (N : Nat) (rec_174 : Mem → Int32 → Int32 → Int32 → Int32 → Int32 → Int32 → Int32 → Int32 → Option (Int32 × Mem)) (rec_219 : Mem → Int32 → Int32 → Int32 → Int32 → Int32 → Int32 → Int32 → Int32 → Int32 → Int32 → Option (Int32 × Mem)) (m : Mem) (x1 : Int32) (x2 : Int32) (x5 : Int32) (x7 : Int32) (x8 : Int32) (x9 : Int32) (x10 : Int32) (x11 : Int32) (x13 : Int32) (s0 : Int32) (s1 : Int32) : Option (Int32 × Mem) :=
  calL (F_X7_answer N m s1 s0 x11 x13) fun r28 m27 =>
  gd (inb x13 (alen 70)) <|
  if r28 = (m27 70 (ix x13)) then (
    B_L_isBack_262 N rec_174 rec_219 m27 x1 x2 x5 x7 x8 x9 x10 x11 x13 (1 : Int32)
  ) else (
    B_L_isBack_262 N rec_174 rec_219 m27 x1 x2 x5 x7 x8 x9 x10 x11 x13 (0 : Int32)
  )
set_option maxRecDepth 100000 in
set_option maxHeartbeats 4000000 in
theorem bk_L_isBack_242 {N : Nat} {K : KT} {m' : Mem} {rec_174 : Mem → Int32 → Int32 → Int32 → Int32 → Int32 → Int32 → Int32 → Int32 → Option (Int32 × Mem)} {rec_219 : Mem → Int32 → Int32 → Int32 → Int32 → Int32 → Int32 → Int32 → Int32 → Int32 → Int32 → Option (Int32 × Mem)} {r : Int32} (hK : KOK K cL_isBack 14 RL wsL_isBack 10 1 215) (hR : KRb K r m' 1) (hT : KTo K) (hrec_174 : ∀ {m : Mem} {x1 : Int32} {x2 : Int32} {x5 : Int32} {x7 : Int32} {x8 : Int32} {x9 : Int32} {x10 : Int32} {x11 : Int32}, rec_174 m x1 x2 x5 x7 x8 x9 x10 x11 = some (r, m') → AW K 1 174 [(0, q_r 0), (1, q_i x1), (2, q_i x2), (4, q_r 70), (5, q_i x5), (7, q_i x7), (8, q_i x8), (9, q_i x9), (10, q_i x10), (11, q_i x11)] [] m) (hrec_219 : ∀ {m : Mem} {x1 : Int32} {x2 : Int32} {x5 : Int32} {x7 : Int32} {x8 : Int32} {x9 : Int32} {x10 : Int32} {x11 : Int32} {x12 : Int32} {x13 : Int32}, rec_219 m x1 x2 x5 x7 x8 x9 x10 x11 x12 x13 = some (r, m') → AW K 1 219 [(0, q_r 0), (1, q_i x1), (2, q_i x2), (4, q_r 70), (5, q_i x5), (7, q_i x7), (8, q_i x8), (9, q_i x9), (10, q_i x10), (11, q_i x11), (12, q_i x12), (13, q_i x13)] [] m) {m : Mem} {x1 : Int32} {x2 : Int32} {x5 : Int32} {x7 : Int32} {x8 : Int32} {x9 : Int32} {x10 : Int32} {x11 : Int32} {x13 : Int32} {s0 : Int32} {s1 : Int32} (hF : B_L_isBack_242 N rec_174 rec_219 m x1 x2 x5 x7 x8 x9 x10 x11 x13 s0 s1 = some (r, m')) : AW K 1 242 [(0, q_r 0), (1, q_i x1), (2, q_i x2), (4, q_r 70), (5, q_i x5), (7, q_i x7), (8, q_i x8), (9, q_i x9), (10, q_i x10), (11, q_i x11), (13, q_i x13)] [q_i s0, q_i s1, q_r 0] m := by
  unfold B_L_isBack_242 at hF
  refine aw_iload hK 9 rfl dL_isBack_242 ?_
  refine aw_iload hK 10 rfl dL_isBack_244 ?_
  obtain ⟨r28, m27, h26, hF⟩ := calL_some hF
  refine aw_cv hK 7 (as := [q_i s1, q_i s0, q_i x11, q_i x13]) (trN_X7_answer h26) gL_isBack_X7_answer rfl rfl rfl (by decide) (na := 4) (by decide +kernel) rfl ⟨by decide, by decide⟩ (Nat.le_of_ble_eq_true rfl) (Nat.le_of_ble_eq_true rfl) dL_isBack_246 ?_
  refine aw_aload hK 3 rfl dL_isBack_249 ?_
  refine aw_iload hK 10 rfl dL_isBack_251 ?_
  obtain ⟨g29, hF⟩ := gd_some hF
  refine aw_iald hK rfl g29 dL_isBack_253 ?_
  refine aw_icmp_ne hK 261 rfl dL_isBack_254 (fun hc => ?_) (fun hc => ?_)
  · have hF := if_f hF hc
    refine aw_iconst hK (0) rfl dL_isBack_261 ?_
    refine aw_sub [0, 1, 2, 3, 4, 5, 6, 7, 8, 9, 10] (lv' := [(0, q_r 0), (1, q_i x1), (2, q_i x2), (4, q_r 70), (5, q_i x5), (7, q_i x7), (8, q_i x8), (9, q_i x9), (10, q_i x10), (11, q_i x11), (13, q_i x13)]) rfl ?_
    exact bk_L_isBack_262 hK hR hT hrec_174 hrec_219 hF
  · have hF := if_t hF hc
    refine aw_iconst hK (1) rfl dL_isBack_257 ?_
    refine aw_goto hK 262 rfl dL_isBack_258 ?_
    refine aw_sub [0, 1, 2, 3, 4, 5, 6, 7, 8, 9, 10] (lv' := [(0, q_r 0), (1, q_i x1), (2, q_i x2), (4, q_r 70), (5, q_i x5), (7, q_i x7), (8, q_i x8), (9, q_i x9), (10, q_i x10), (11, q_i x11), (13, q_i x13)]) rfl ?_
    exact bk_L_isBack_262 hK hR hT hrec_174 hrec_219 hF
def S_L_isBack_219 (N : Nat) (rec_174 : Mem → Int32 → Int32 → Int32 → Int32 → Int32 → Int32 → Int32 → Int32 → Option (Int32 × Mem)) (rec_219 : Mem → Int32 → Int32 → Int32 → Int32 → Int32 → Int32 → Int32 → Int32 → Int32 → Int32 → Option (Int32 × Mem)) (m : Mem) (x1 : Int32) (x2 : Int32) (x5 : Int32) (x7 : Int32) (x8 : Int32) (x9 : Int32) (x10 : Int32) (x11 : Int32) (x12 : Int32) (x13 : Int32) : Option (Int32 × Mem) :=
  if x5 ≤ x13 then (
    B_L_isBack_270 N rec_174 m x1 x2 x5 x7 x8 x9 x10 x11 x12
  ) else (
    if x12 = (0 : Int32) then (
      B_L_isBack_270 N rec_174 m x1 x2 x5 x7 x8 x9 x10 x11 x12
    ) else (
      if x2 = (0 : Int32) then (
        B_L_isBack_242 N rec_174 rec_219 m x1 x2 x5 x7 x8 x9 x10 x11 x13 (1 : Int32) x1
      ) else (
        B_L_isBack_242 N rec_174 rec_219 m x1 x2 x5 x7 x8 x9 x10 x11 x13 (0 : Int32) x1
      )
    )
  )
def L_L_isBack_219 (N : Nat) (rec_174 : Mem → Int32 → Int32 → Int32 → Int32 → Int32 → Int32 → Int32 → Int32 → Option (Int32 × Mem)) : Nat → Mem → Int32 → Int32 → Int32 → Int32 → Int32 → Int32 → Int32 → Int32 → Int32 → Int32 → Option (Int32 × Mem)
  | 0 => fun _ _ _ _ _ _ _ _ _ _ _ => none
  | f + 1 => S_L_isBack_219 N rec_174 (L_L_isBack_219 N rec_174 f)
set_option maxRecDepth 100000 in
set_option maxHeartbeats 4000000 in
theorem lp_L_isBack_219 {N : Nat} {K : KT} {m' : Mem} {rec_174 : Mem → Int32 → Int32 → Int32 → Int32 → Int32 → Int32 → Int32 → Int32 → Option (Int32 × Mem)} {r : Int32} (hK : KOK K cL_isBack 14 RL wsL_isBack 10 1 215) (hR : KRb K r m' 1) (hT : KTo K) (hrec_174 : ∀ {m : Mem} {x1 : Int32} {x2 : Int32} {x5 : Int32} {x7 : Int32} {x8 : Int32} {x9 : Int32} {x10 : Int32} {x11 : Int32}, rec_174 m x1 x2 x5 x7 x8 x9 x10 x11 = some (r, m') → AW K 1 174 [(0, q_r 0), (1, q_i x1), (2, q_i x2), (4, q_r 70), (5, q_i x5), (7, q_i x7), (8, q_i x8), (9, q_i x9), (10, q_i x10), (11, q_i x11)] [] m) : ∀ (f : Nat) {m : Mem} {x1 : Int32} {x2 : Int32} {x5 : Int32} {x7 : Int32} {x8 : Int32} {x9 : Int32} {x10 : Int32} {x11 : Int32} {x12 : Int32} {x13 : Int32}, L_L_isBack_219 N rec_174 f m x1 x2 x5 x7 x8 x9 x10 x11 x12 x13 = some (r, m') → AW K 1 219 [(0, q_r 0), (1, q_i x1), (2, q_i x2), (4, q_r 70), (5, q_i x5), (7, q_i x7), (8, q_i x8), (9, q_i x9), (10, q_i x10), (11, q_i x11), (12, q_i x12), (13, q_i x13)] [] m := by
  intro f
  induction f with
  | zero => intro m x1 x2 x5 x7 x8 x9 x10 x11 x12 x13 hF; cases hF
  | succ f hrec_219 =>
    intro m x1 x2 x5 x7 x8 x9 x10 x11 x12 x13 hF
    have hF : S_L_isBack_219 N rec_174 (L_L_isBack_219 N rec_174 f) m x1 x2 x5 x7 x8 x9 x10 x11 x12 x13 = some (r, m') := hF
    unfold S_L_isBack_219 at hF
    refine aw_iload hK 11 rfl dL_isBack_219 ?_
    refine aw_iload hK 4 rfl dL_isBack_221 ?_
    refine aw_icmp_ge hK 270 rfl dL_isBack_223 (fun hc => ?_) (fun hc => ?_)
    · have hF := if_t hF hc
      refine aw_sub [0, 1, 2, 3, 4, 5, 6, 7, 8, 9, 10] (lv' := [(0, q_r 0), (1, q_i x1), (2, q_i x2), (4, q_r 70), (5, q_i x5), (7, q_i x7), (8, q_i x8), (9, q_i x9), (10, q_i x10), (11, q_i x11), (12, q_i x12)]) rfl ?_
      exact bk_L_isBack_270 hK hR hT hrec_174 hF
    · have hF := if_f hF hc
      refine aw_iload hK 10 rfl dL_isBack_226 ?_
      refine aw_if_eq hK 270 rfl dL_isBack_228 (fun hc => ?_) (fun hc => ?_)
      · have hF := if_t hF hc
        refine aw_sub [0, 1, 2, 3, 4, 5, 6, 7, 8, 9, 10] (lv' := [(0, q_r 0), (1, q_i x1), (2, q_i x2), (4, q_r 70), (5, q_i x5), (7, q_i x7), (8, q_i x8), (9, q_i x9), (10, q_i x10), (11, q_i x11), (12, q_i x12)]) rfl ?_
        exact bk_L_isBack_270 hK hR hT hrec_174 hF
      · have hF := if_f hF hc
        refine aw_aload_n hK 0 rfl dL_isBack_231 ?_
        refine aw_iload_n hK 1 rfl dL_isBack_232 ?_
        refine aw_iload_n hK 2 rfl dL_isBack_233 ?_
        refine aw_if_ne hK 241 rfl dL_isBack_234 (fun hc => ?_) (fun hc => ?_)
        · have hF := if_f hF hc
          refine aw_iconst hK (0) rfl dL_isBack_241 ?_
          refine aw_sub [0, 1, 2, 3, 4, 5, 6, 7, 8, 9, 11] (lv' := [(0, q_r 0), (1, q_i x1), (2, q_i x2), (4, q_r 70), (5, q_i x5), (7, q_i x7), (8, q_i x8), (9, q_i x9), (10, q_i x10), (11, q_i x11), (13, q_i x13)]) rfl ?_
          exact bk_L_isBack_242 hK hR hT hrec_174 hrec_219 hF
        · have hF := if_t hF hc
          refine aw_iconst hK (1) rfl dL_isBack_237 ?_
          refine aw_goto hK 242 rfl dL_isBack_238 ?_
          refine aw_sub [0, 1, 2, 3, 4, 5, 6, 7, 8, 9, 11] (lv' := [(0, q_r 0), (1, q_i x1), (2, q_i x2), (4, q_r 70), (5, q_i x5), (7, q_i x7), (8, q_i x8), (9, q_i x9), (10, q_i x10), (11, q_i x11), (13, q_i x13)]) rfl ?_
          exact bk_L_isBack_242 hK hR hT hrec_174 hrec_219 hF
def B_L_isBack_214 (N : Nat) (rec_174 : Mem → Int32 → Int32 → Int32 → Int32 → Int32 → Int32 → Int32 → Int32 → Option (Int32 × Mem)) (m : Mem) (x1 : Int32) (x2 : Int32) (x5 : Int32) (x7 : Int32) (x8 : Int32) (x9 : Int32) (x10 : Int32) (x11 : Int32) (s0 : Int32) : Option (Int32 × Mem) :=
  L_L_isBack_219 N rec_174 N m x1 x2 x5 x7 x8 x9 x10 x11 s0 (0 : Int32)
set_option maxRecDepth 100000 in
set_option maxHeartbeats 4000000 in
theorem bk_L_isBack_214 {N : Nat} {K : KT} {m' : Mem} {rec_174 : Mem → Int32 → Int32 → Int32 → Int32 → Int32 → Int32 → Int32 → Int32 → Option (Int32 × Mem)} {r : Int32} (hK : KOK K cL_isBack 14 RL wsL_isBack 10 1 215) (hR : KRb K r m' 1) (hT : KTo K) (hrec_174 : ∀ {m : Mem} {x1 : Int32} {x2 : Int32} {x5 : Int32} {x7 : Int32} {x8 : Int32} {x9 : Int32} {x10 : Int32} {x11 : Int32}, rec_174 m x1 x2 x5 x7 x8 x9 x10 x11 = some (r, m') → AW K 1 174 [(0, q_r 0), (1, q_i x1), (2, q_i x2), (4, q_r 70), (5, q_i x5), (7, q_i x7), (8, q_i x8), (9, q_i x9), (10, q_i x10), (11, q_i x11)] [] m) {m : Mem} {x1 : Int32} {x2 : Int32} {x5 : Int32} {x7 : Int32} {x8 : Int32} {x9 : Int32} {x10 : Int32} {x11 : Int32} {s0 : Int32} (hF : B_L_isBack_214 N rec_174 m x1 x2 x5 x7 x8 x9 x10 x11 s0 = some (r, m')) : AW K 1 214 [(0, q_r 0), (1, q_i x1), (2, q_i x2), (4, q_r 70), (5, q_i x5), (7, q_i x7), (8, q_i x8), (9, q_i x9), (10, q_i x10), (11, q_i x11)] [q_i s0] m := by
  unfold B_L_isBack_214 at hF
  refine aw_istore hK [(12, q_i s0), (0, q_r 0), (1, q_i x1), (2, q_i x2), (4, q_r 70), (5, q_i x5), (7, q_i x7), (8, q_i x8), (9, q_i x9), (10, q_i x10), (11, q_i x11)] (by decide) rfl dL_isBack_214 ?_
  refine aw_iconst hK (0) rfl dL_isBack_216 ?_
  refine aw_istore hK [(13, q_i (0 : Int32)), (12, q_i s0), (0, q_r 0), (1, q_i x1), (2, q_i x2), (4, q_r 70), (5, q_i x5), (7, q_i x7), (8, q_i x8), (9, q_i x9), (10, q_i x10), (11, q_i x11)] (by decide) rfl dL_isBack_217 ?_
  refine aw_sub [2, 3, 4, 5, 6, 7, 8, 9, 10, 11, 1, 0] (lv' := [(0, q_r 0), (1, q_i x1), (2, q_i x2), (4, q_r 70), (5, q_i x5), (7, q_i x7), (8, q_i x8), (9, q_i x9), (10, q_i x10), (11, q_i x11), (12, q_i s0), (13, q_i (0 : Int32))]) rfl ?_
  exact lp_L_isBack_219 hK hR hT hrec_174 _ hF
def B_L_isBack_197 (N : Nat) (rec_174 : Mem → Int32 → Int32 → Int32 → Int32 → Int32 → Int32 → Int32 → Int32 → Option (Int32 × Mem)) (m : Mem) (x1 : Int32) (x2 : Int32) (x5 : Int32) (x7 : Int32) (x8 : Int32) (x9 : Int32) (x10 : Int32) (x11 : Int32) (s0 : Int32) (s1 : Int32) : Option (Int32 × Mem) :=
  calL (F_X7_answer N m s1 s0 x11 x5) fun r25 m24 =>
  if r25 = (8 : Int32) then (
    B_L_isBack_214 N rec_174 m24 x1 x2 x5 x7 x8 x9 x10 x11 (1 : Int32)
  ) else (
    B_L_isBack_214 N rec_174 m24 x1 x2 x5 x7 x8 x9 x10 x11 (0 : Int32)
  )
set_option maxRecDepth 100000 in
set_option maxHeartbeats 4000000 in
theorem bk_L_isBack_197 {N : Nat} {K : KT} {m' : Mem} {rec_174 : Mem → Int32 → Int32 → Int32 → Int32 → Int32 → Int32 → Int32 → Int32 → Option (Int32 × Mem)} {r : Int32} (hK : KOK K cL_isBack 14 RL wsL_isBack 10 1 215) (hR : KRb K r m' 1) (hT : KTo K) (hrec_174 : ∀ {m : Mem} {x1 : Int32} {x2 : Int32} {x5 : Int32} {x7 : Int32} {x8 : Int32} {x9 : Int32} {x10 : Int32} {x11 : Int32}, rec_174 m x1 x2 x5 x7 x8 x9 x10 x11 = some (r, m') → AW K 1 174 [(0, q_r 0), (1, q_i x1), (2, q_i x2), (4, q_r 70), (5, q_i x5), (7, q_i x7), (8, q_i x8), (9, q_i x9), (10, q_i x10), (11, q_i x11)] [] m) {m : Mem} {x1 : Int32} {x2 : Int32} {x5 : Int32} {x7 : Int32} {x8 : Int32} {x9 : Int32} {x10 : Int32} {x11 : Int32} {s0 : Int32} {s1 : Int32} (hF : B_L_isBack_197 N rec_174 m x1 x2 x5 x7 x8 x9 x10 x11 s0 s1 = some (r, m')) : AW K 1 197 [(0, q_r 0), (1, q_i x1), (2, q_i x2), (4, q_r 70), (5, q_i x5), (7, q_i x7), (8, q_i x8), (9, q_i x9), (10, q_i x10), (11, q_i x11)] [q_i s0, q_i s1, q_r 0] m := by
  unfold B_L_isBack_197 at hF
  refine aw_iload hK 9 rfl dL_isBack_197 ?_
  refine aw_iload hK 4 rfl dL_isBack_199 ?_
  obtain ⟨r25, m24, h23, hF⟩ := calL_some hF
  refine aw_cv hK 7 (as := [q_i s1, q_i s0, q_i x11, q_i x5]) (trN_X7_answer h23) gL_isBack_X7_answer rfl rfl rfl (by decide) (na := 4) (by decide +kernel) rfl ⟨by decide, by decide⟩ (Nat.le_of_ble_eq_true rfl) (Nat.le_of_ble_eq_true rfl) dL_isBack_201 ?_
  refine aw_bipush hK (8) rfl dL_isBack_204 ?_
  refine aw_icmp_ne hK 213 rfl dL_isBack_206 (fun hc => ?_) (fun hc => ?_)
  · have hF := if_f hF hc
    refine aw_iconst hK (0) rfl dL_isBack_213 ?_
    refine aw_sub [0, 1, 2, 3, 4, 5, 6, 7, 8, 9] (lv' := [(0, q_r 0), (1, q_i x1), (2, q_i x2), (4, q_r 70), (5, q_i x5), (7, q_i x7), (8, q_i x8), (9, q_i x9), (10, q_i x10), (11, q_i x11)]) rfl ?_
    exact bk_L_isBack_214 hK hR hT hrec_174 hF
  · have hF := if_t hF hc
    refine aw_iconst hK (1) rfl dL_isBack_209 ?_
    refine aw_goto hK 214 rfl dL_isBack_210 ?_
    refine aw_sub [0, 1, 2, 3, 4, 5, 6, 7, 8, 9] (lv' := [(0, q_r 0), (1, q_i x1), (2, q_i x2), (4, q_r 70), (5, q_i x5), (7, q_i x7), (8, q_i x8), (9, q_i x9), (10, q_i x10), (11, q_i x11)]) rfl ?_
    exact bk_L_isBack_214 hK hR hT hrec_174 hF
def S_L_isBack_174 (N : Nat) (rec_174 : Mem → Int32 → Int32 → Int32 → Int32 → Int32 → Int32 → Int32 → Int32 → Option (Int32 × Mem)) (m : Mem) (x1 : Int32) (x2 : Int32) (x5 : Int32) (x7 : Int32) (x8 : Int32) (x9 : Int32) (x10 : Int32) (x11 : Int32) : Option (Int32 × Mem) :=
  if x9 ≤ x11 then (
    B_L_isBack_293 N m x5 x7 x8 x10
  ) else (
    if x8 = (0 : Int32) then (
      B_L_isBack_293 N m x5 x7 x8 x10
    ) else (
      if x2 = (0 : Int32) then (
        B_L_isBack_197 N rec_174 m x1 x2 x5 x7 x8 x9 x10 x11 (1 : Int32) x1
      ) else (
        B_L_isBack_197 N rec_174 m x1 x2 x5 x7 x8 x9 x10 x11 (0 : Int32) x1
      )
    )
  )
def L_L_isBack_174 (N : Nat) : Nat → Mem → Int32 → Int32 → Int32 → Int32 → Int32 → Int32 → Int32 → Int32 → Option (Int32 × Mem)
  | 0 => fun _ _ _ _ _ _ _ _ _ => none
  | f + 1 => S_L_isBack_174 N (L_L_isBack_174 N f)
set_option maxRecDepth 100000 in
set_option maxHeartbeats 4000000 in
theorem lp_L_isBack_174 {N : Nat} {K : KT} {m' : Mem} {r : Int32} (hK : KOK K cL_isBack 14 RL wsL_isBack 10 1 215) (hR : KRb K r m' 1) (hT : KTo K) : ∀ (f : Nat) {m : Mem} {x1 : Int32} {x2 : Int32} {x5 : Int32} {x7 : Int32} {x8 : Int32} {x9 : Int32} {x10 : Int32} {x11 : Int32}, L_L_isBack_174 N f m x1 x2 x5 x7 x8 x9 x10 x11 = some (r, m') → AW K 1 174 [(0, q_r 0), (1, q_i x1), (2, q_i x2), (4, q_r 70), (5, q_i x5), (7, q_i x7), (8, q_i x8), (9, q_i x9), (10, q_i x10), (11, q_i x11)] [] m := by
  intro f
  induction f with
  | zero => intro m x1 x2 x5 x7 x8 x9 x10 x11 hF; cases hF
  | succ f hrec_174 =>
    intro m x1 x2 x5 x7 x8 x9 x10 x11 hF
    have hF : S_L_isBack_174 N (L_L_isBack_174 N f) m x1 x2 x5 x7 x8 x9 x10 x11 = some (r, m') := hF
    unfold S_L_isBack_174 at hF
    refine aw_iload hK 9 rfl dL_isBack_174 ?_
    refine aw_iload hK 7 rfl dL_isBack_176 ?_
    refine aw_icmp_ge hK 293 rfl dL_isBack_178 (fun hc => ?_) (fun hc => ?_)
    · have hF := if_t hF hc
      refine aw_sub [0, 3, 4, 5, 6, 8] (lv' := [(0, q_r 0), (4, q_r 70), (5, q_i x5), (7, q_i x7), (8, q_i x8), (10, q_i x10)]) rfl ?_
      exact bk_L_isBack_293 hK hR hT hF
    · have hF := if_f hF hc
      refine aw_iload hK 6 rfl dL_isBack_181 ?_
      refine aw_if_eq hK 293 rfl dL_isBack_183 (fun hc => ?_) (fun hc => ?_)
      · have hF := if_t hF hc
        refine aw_sub [0, 3, 4, 5, 6, 8] (lv' := [(0, q_r 0), (4, q_r 70), (5, q_i x5), (7, q_i x7), (8, q_i x8), (10, q_i x10)]) rfl ?_
        exact bk_L_isBack_293 hK hR hT hF
      · have hF := if_f hF hc
        refine aw_aload_n hK 0 rfl dL_isBack_186 ?_
        refine aw_iload_n hK 1 rfl dL_isBack_187 ?_
        refine aw_iload_n hK 2 rfl dL_isBack_188 ?_
        refine aw_if_ne hK 196 rfl dL_isBack_189 (fun hc => ?_) (fun hc => ?_)
        · have hF := if_f hF hc
          refine aw_iconst hK (0) rfl dL_isBack_196 ?_
          refine aw_sub [0, 1, 2, 3, 4, 5, 6, 7, 8, 9] (lv' := [(0, q_r 0), (1, q_i x1), (2, q_i x2), (4, q_r 70), (5, q_i x5), (7, q_i x7), (8, q_i x8), (9, q_i x9), (10, q_i x10), (11, q_i x11)]) rfl ?_
          exact bk_L_isBack_197 hK hR hT hrec_174 hF
        · have hF := if_t hF hc
          refine aw_iconst hK (1) rfl dL_isBack_192 ?_
          refine aw_goto hK 197 rfl dL_isBack_193 ?_
          refine aw_sub [0, 1, 2, 3, 4, 5, 6, 7, 8, 9] (lv' := [(0, q_r 0), (1, q_i x1), (2, q_i x2), (4, q_r 70), (5, q_i x5), (7, q_i x7), (8, q_i x8), (9, q_i x9), (10, q_i x10), (11, q_i x11)]) rfl ?_
          exact bk_L_isBack_197 hK hR hT hrec_174 hF
def B_L_isBack_169 (N : Nat) (m : Mem) (x1 : Int32) (x2 : Int32) (x5 : Int32) (x7 : Int32) (x8 : Int32) (x9 : Int32) (s0 : Int32) : Option (Int32 × Mem) :=
  L_L_isBack_174 N N m x1 x2 x5 x7 x8 x9 s0 (0 : Int32)
set_option maxRecDepth 100000 in
set_option maxHeartbeats 4000000 in
theorem bk_L_isBack_169 {N : Nat} {K : KT} {m' : Mem} {r : Int32} (hK : KOK K cL_isBack 14 RL wsL_isBack 10 1 215) (hR : KRb K r m' 1) (hT : KTo K) {m : Mem} {x1 : Int32} {x2 : Int32} {x5 : Int32} {x7 : Int32} {x8 : Int32} {x9 : Int32} {s0 : Int32} (hF : B_L_isBack_169 N m x1 x2 x5 x7 x8 x9 s0 = some (r, m')) : AW K 1 169 [(0, q_r 0), (1, q_i x1), (2, q_i x2), (4, q_r 70), (5, q_i x5), (7, q_i x7), (8, q_i x8), (9, q_i x9)] [q_i s0] m := by
  unfold B_L_isBack_169 at hF
  refine aw_istore hK [(10, q_i s0), (0, q_r 0), (1, q_i x1), (2, q_i x2), (4, q_r 70), (5, q_i x5), (7, q_i x7), (8, q_i x8), (9, q_i x9)] (by decide) rfl dL_isBack_169 ?_
  refine aw_iconst hK (0) rfl dL_isBack_171 ?_
  refine aw_istore hK [(11, q_i (0 : Int32)), (10, q_i s0), (0, q_r 0), (1, q_i x1), (2, q_i x2), (4, q_r 70), (5, q_i x5), (7, q_i x7), (8, q_i x8), (9, q_i x9)] (by decide) rfl dL_isBack_172 ?_
  refine aw_sub [2, 3, 4, 5, 6, 7, 8, 9, 1, 0] (lv' := [(0, q_r 0), (1, q_i x1), (2, q_i x2), (4, q_r 70), (5, q_i x5), (7, q_i x7), (8, q_i x8), (9, q_i x9), (10, q_i s0), (11, q_i (0 : Int32))]) rfl ?_
  exact lp_L_isBack_174 hK hR hT _ hF
def B_L_isBack_152 (N : Nat) (m : Mem) (x1 : Int32) (x2 : Int32) (x5 : Int32) (x7 : Int32) (x8 : Int32) (s0 : Int32) (s1 : Int32) : Option (Int32 × Mem) :=
  calL (F_X7_answers N m s1 s0) fun r22 m21 =>
  if r22 = (20 : Int32) then (
    B_L_isBack_169 N m21 x1 x2 x5 x7 x8 r22 (1 : Int32)
  ) else (
    B_L_isBack_169 N m21 x1 x2 x5 x7 x8 r22 (0 : Int32)
  )
set_option maxRecDepth 100000 in
set_option maxHeartbeats 4000000 in
theorem bk_L_isBack_152 {N : Nat} {K : KT} {m' : Mem} {r : Int32} (hK : KOK K cL_isBack 14 RL wsL_isBack 10 1 215) (hR : KRb K r m' 1) (hT : KTo K) {m : Mem} {x1 : Int32} {x2 : Int32} {x5 : Int32} {x7 : Int32} {x8 : Int32} {s0 : Int32} {s1 : Int32} (hF : B_L_isBack_152 N m x1 x2 x5 x7 x8 s0 s1 = some (r, m')) : AW K 1 152 [(0, q_r 0), (1, q_i x1), (2, q_i x2), (4, q_r 70), (5, q_i x5), (7, q_i x7), (8, q_i x8)] [q_i s0, q_i s1, q_r 0] m := by
  unfold B_L_isBack_152 at hF
  obtain ⟨r22, m21, h20, hF⟩ := calL_some hF
  refine aw_cv hK 7 (as := [q_i s1, q_i s0]) (trN_X7_answers h20) gL_isBack_X7_answers rfl rfl rfl (by decide) (na := 2) (by decide +kernel) rfl ⟨by decide, by decide⟩ (Nat.le_of_ble_eq_true rfl) (Nat.le_of_ble_eq_true rfl) dL_isBack_152 ?_
  refine aw_istore hK [(9, q_i r22), (0, q_r 0), (1, q_i x1), (2, q_i x2), (4, q_r 70), (5, q_i x5), (7, q_i x7), (8, q_i x8)] (by decide) rfl dL_isBack_155 ?_
  refine aw_iload hK 0 rfl dL_isBack_157 ?_
  refine aw_bipush hK (20) rfl dL_isBack_159 ?_
  refine aw_icmp_ne hK 168 rfl dL_isBack_161 (fun hc => ?_) (fun hc => ?_)
  · have hF := if_f hF hc
    refine aw_iconst hK (0) rfl dL_isBack_168 ?_
    refine aw_sub [1, 2, 3, 4, 5, 6, 7, 0] (lv' := [(0, q_r 0), (1, q_i x1), (2, q_i x2), (4, q_r 70), (5, q_i x5), (7, q_i x7), (8, q_i x8), (9, q_i r22)]) rfl ?_
    exact bk_L_isBack_169 hK hR hT hF
  · have hF := if_t hF hc
    refine aw_iconst hK (1) rfl dL_isBack_164 ?_
    refine aw_goto hK 169 rfl dL_isBack_165 ?_
    refine aw_sub [1, 2, 3, 4, 5, 6, 7, 0] (lv' := [(0, q_r 0), (1, q_i x1), (2, q_i x2), (4, q_r 70), (5, q_i x5), (7, q_i x7), (8, q_i x8), (9, q_i r22)]) rfl ?_
    exact bk_L_isBack_169 hK hR hT hF
def B_L_isBack_141 (N : Nat) (m : Mem) (x1 : Int32) (x2 : Int32) (x5 : Int32) (x7 : Int32) (x8 : Int32) : Option (Int32 × Mem) :=
  if x2 = (0 : Int32) then (
    B_L_isBack_152 N m x1 x2 x5 x7 x8 (1 : Int32) x1
  ) else (
    B_L_isBack_152 N m x1 x2 x5 x7 x8 (0 : Int32) x1
  )
set_option maxRecDepth 100000 in
set_option maxHeartbeats 4000000 in
theorem bk_L_isBack_141 {N : Nat} {K : KT} {m' : Mem} {r : Int32} (hK : KOK K cL_isBack 14 RL wsL_isBack 10 1 215) (hR : KRb K r m' 1) (hT : KTo K) {m : Mem} {x1 : Int32} {x2 : Int32} {x5 : Int32} {x7 : Int32} {x8 : Int32} (hF : B_L_isBack_141 N m x1 x2 x5 x7 x8 = some (r, m')) : AW K 1 141 [(0, q_r 0), (1, q_i x1), (2, q_i x2), (4, q_r 70), (5, q_i x5), (7, q_i x7), (8, q_i x8)] [] m := by
  unfold B_L_isBack_141 at hF
  refine aw_aload_n hK 0 rfl dL_isBack_141 ?_
  refine aw_iload_n hK 1 rfl dL_isBack_142 ?_
  refine aw_iload_n hK 2 rfl dL_isBack_143 ?_
  refine aw_if_ne hK 151 rfl dL_isBack_144 (fun hc => ?_) (fun hc => ?_)
  · have hF := if_f hF hc
    refine aw_iconst hK (0) rfl dL_isBack_151 ?_
    refine aw_sub [0, 1, 2, 3, 4, 5, 6] (lv' := [(0, q_r 0), (1, q_i x1), (2, q_i x2), (4, q_r 70), (5, q_i x5), (7, q_i x7), (8, q_i x8)]) rfl ?_
    exact bk_L_isBack_152 hK hR hT hF
  · have hF := if_t hF hc
    refine aw_iconst hK (1) rfl dL_isBack_147 ?_
    refine aw_goto hK 152 rfl dL_isBack_148 ?_
    refine aw_sub [0, 1, 2, 3, 4, 5, 6] (lv' := [(0, q_r 0), (1, q_i x1), (2, q_i x2), (4, q_r 70), (5, q_i x5), (7, q_i x7), (8, q_i x8)]) rfl ?_
    exact bk_L_isBack_152 hK hR hT hF
def B_L_isBack_133 (N : Nat) (rec_94 : Mem → Int32 → Int32 → Int32 → Int32 → Int32 → Int32 → Option (Int32 × Mem)) (m : Mem) (x1 : Int32) (x2 : Int32) (x5 : Int32) (x7 : Int32) (x9 : Int32) (s0 : Int32) : Option (Int32 × Mem) :=
  bnd (x9 + (1 : Int32)) fun y19 =>
  rec_94 m x1 x2 x5 x7 s0 y19
set_option maxRecDepth 100000 in
set_option maxHeartbeats 4000000 in
theorem bk_L_isBack_133 {N : Nat} {K : KT} {m' : Mem} {rec_94 : Mem → Int32 → Int32 → Int32 → Int32 → Int32 → Int32 → Option (Int32 × Mem)} {r : Int32} (hK : KOK K cL_isBack 14 RL wsL_isBack 10 1 215) (hR : KRb K r m' 1) (hT : KTo K) (hrec_94 : ∀ {m : Mem} {x1 : Int32} {x2 : Int32} {x5 : Int32} {x7 : Int32} {x8 : Int32} {x9 : Int32}, rec_94 m x1 x2 x5 x7 x8 x9 = some (r, m') → AW K 1 94 [(0, q_r 0), (1, q_i x1), (2, q_i x2), (4, q_r 70), (5, q_i x5), (6, q_r 2147483649), (7, q_i x7), (8, q_i x8), (9, q_i x9)] [] m) {m : Mem} {x1 : Int32} {x2 : Int32} {x5 : Int32} {x7 : Int32} {x9 : Int32} {s0 : Int32} (hF : B_L_isBack_133 N rec_94 m x1 x2 x5 x7 x9 s0 = some (r, m')) : AW K 1 133 [(0, q_r 0), (1, q_i x1), (2, q_i x2), (4, q_r 70), (5, q_i x5), (6, q_r 2147483649), (7, q_i x7), (9, q_i x9)] [q_i s0] m := by
  unfold B_L_isBack_133 at hF
  refine aw_istore hK [(8, q_i s0), (0, q_r 0), (1, q_i x1), (2, q_i x2), (4, q_r 70), (5, q_i x5), (6, q_r 2147483649), (7, q_i x7), (9, q_i x9)] (by decide) rfl dL_isBack_133 ?_
  obtain ⟨y19, hy19, hF⟩ := bnd_some hF
  refine aw_iinc hK (cz := 1) 8 [(9, q_i y19), (8, q_i s0), (0, q_r 0), (1, q_i x1), (2, q_i x2), (4, q_r 70), (5, q_i x5), (6, q_r 2147483649), (7, q_i x7)] (by decide) rfl rfl hy19 rfl dL_isBack_135 ?_
  refine aw_goto hK 94 rfl dL_isBack_138 ?_
  refine aw_sub [2, 3, 4, 5, 6, 7, 8, 1, 0] (lv' := [(0, q_r 0), (1, q_i x1), (2, q_i x2), (4, q_r 70), (5, q_i x5), (6, q_r 2147483649), (7, q_i x7), (8, q_i s0), (9, q_i y19)]) rfl ?_
  exact hrec_94 hF
def S_L_isBack_94 (N : Nat) (rec_94 : Mem → Int32 → Int32 → Int32 → Int32 → Int32 → Int32 → Option (Int32 × Mem)) (m : Mem) (x1 : Int32) (x2 : Int32) (x5 : Int32) (x7 : Int32) (x8 : Int32) (x9 : Int32) : Option (Int32 × Mem) :=
  if x7 ≤ x9 then (
    B_L_isBack_141 N m x1 x2 x5 x7 x8
  ) else (
    if x8 = (0 : Int32) then (
      B_L_isBack_141 N m x1 x2 x5 x7 x8
    ) else (
      gd (inb x9 8) <|
      calL (F_L_asks N m (13 : Int32) (m 2147483649 (ix x9)) (0 : Int32) (0 : Int32) (0 : Int32) (0 : Int32)) fun r18 m17 =>
      if r18 = (x9 + (1 : Int32)) then (
        B_L_isBack_133 N rec_94 m17 x1 x2 x5 x7 x9 (1 : Int32)
      ) else (
        B_L_isBack_133 N rec_94 m17 x1 x2 x5 x7 x9 (0 : Int32)
      )
    )
  )
def L_L_isBack_94 (N : Nat) : Nat → Mem → Int32 → Int32 → Int32 → Int32 → Int32 → Int32 → Option (Int32 × Mem)
  | 0 => fun _ _ _ _ _ _ _ => none
  | f + 1 => S_L_isBack_94 N (L_L_isBack_94 N f)
set_option maxRecDepth 100000 in
set_option maxHeartbeats 4000000 in
theorem lp_L_isBack_94 {N : Nat} {K : KT} {m' : Mem} {r : Int32} (hK : KOK K cL_isBack 14 RL wsL_isBack 10 1 215) (hR : KRb K r m' 1) (hT : KTo K) : ∀ (f : Nat) {m : Mem} {x1 : Int32} {x2 : Int32} {x5 : Int32} {x7 : Int32} {x8 : Int32} {x9 : Int32}, L_L_isBack_94 N f m x1 x2 x5 x7 x8 x9 = some (r, m') → AW K 1 94 [(0, q_r 0), (1, q_i x1), (2, q_i x2), (4, q_r 70), (5, q_i x5), (6, q_r 2147483649), (7, q_i x7), (8, q_i x8), (9, q_i x9)] [] m := by
  intro f
  induction f with
  | zero => intro m x1 x2 x5 x7 x8 x9 hF; cases hF
  | succ f hrec_94 =>
    intro m x1 x2 x5 x7 x8 x9 hF
    have hF : S_L_isBack_94 N (L_L_isBack_94 N f) m x1 x2 x5 x7 x8 x9 = some (r, m') := hF
    unfold S_L_isBack_94 at hF
    refine aw_iload hK 8 rfl dL_isBack_94 ?_
    refine aw_iload hK 6 rfl dL_isBack_96 ?_
    refine aw_icmp_ge hK 141 rfl dL_isBack_98 (fun hc => ?_) (fun hc => ?_)
    · have hF := if_t hF hc
      refine aw_sub [0, 1, 2, 3, 4, 6, 7] (lv' := [(0, q_r 0), (1, q_i x1), (2, q_i x2), (4, q_r 70), (5, q_i x5), (7, q_i x7), (8, q_i x8)]) rfl ?_
      exact bk_L_isBack_141 hK hR hT hF
    · have hF := if_f hF hc
      refine aw_iload hK 7 rfl dL_isBack_101 ?_
      refine aw_if_eq hK 141 rfl dL_isBack_103 (fun hc => ?_) (fun hc => ?_)
      · have hF := if_t hF hc
        refine aw_sub [0, 1, 2, 3, 4, 6, 7] (lv' := [(0, q_r 0), (1, q_i x1), (2, q_i x2), (4, q_r 70), (5, q_i x5), (7, q_i x7), (8, q_i x8)]) rfl ?_
        exact bk_L_isBack_141 hK hR hT hF
      · have hF := if_f hF hc
        refine aw_aload_n hK 0 rfl dL_isBack_106 ?_
        refine aw_bipush hK (13) rfl dL_isBack_107 ?_
        refine aw_aload hK 5 rfl dL_isBack_109 ?_
        refine aw_iload hK 8 rfl dL_isBack_111 ?_
        obtain ⟨g15, hF⟩ := gd_some hF
        refine aw_tald hK hT g15 dL_isBack_113 ?_
        refine aw_iconst hK (0) rfl dL_isBack_114 ?_
        refine aw_iconst hK (0) rfl dL_isBack_115 ?_
        refine aw_iconst hK (0) rfl dL_isBack_116 ?_
        refine aw_iconst hK (0) rfl dL_isBack_117 ?_
        obtain ⟨r18, m17, h16, hF⟩ := calL_some hF
        refine aw_csW0 hK (as := [q_r 0, q_i (13 : Int32), q_i (m 2147483649 (ix x9)), q_i (0 : Int32), q_i (0 : Int32), q_i (0 : Int32), q_i (0 : Int32)]) (trN_L_on h16) gL_isBack_L_on rfl (na := 7) (by decide +kernel) rfl ⟨by decide, by decide⟩ (Nat.le_of_ble_eq_true rfl) (Nat.le_of_ble_eq_true rfl) dL_isBack_118 ?_
        refine aw_iload hK 8 rfl dL_isBack_121 ?_
        refine aw_iconst hK (1) rfl dL_isBack_123 ?_
        refine aw_iadd hK dL_isBack_124 ?_
        refine aw_icmp_ne hK 132 rfl dL_isBack_125 (fun hc => ?_) (fun hc => ?_)
        · have hF := if_f hF hc
          refine aw_iconst hK (0) rfl dL_isBack_132 ?_
          refine aw_sub [0, 1, 2, 3, 4, 5, 6, 8] (lv' := [(0, q_r 0), (1, q_i x1), (2, q_i x2), (4, q_r 70), (5, q_i x5), (6, q_r 2147483649), (7, q_i x7), (9, q_i x9)]) rfl ?_
          exact bk_L_isBack_133 hK hR hT hrec_94 hF
        · have hF := if_t hF hc
          refine aw_iconst hK (1) rfl dL_isBack_128 ?_
          refine aw_goto hK 133 rfl dL_isBack_129 ?_
          refine aw_sub [0, 1, 2, 3, 4, 5, 6, 8] (lv' := [(0, q_r 0), (1, q_i x1), (2, q_i x2), (4, q_r 70), (5, q_i x5), (6, q_r 2147483649), (7, q_i x7), (9, q_i x9)]) rfl ?_
          exact bk_L_isBack_133 hK hR hT hrec_94 hF
def B_L_isBack_89 (N : Nat) (m : Mem) (x1 : Int32) (x2 : Int32) (x5 : Int32) (x7 : Int32) (s0 : Int32) : Option (Int32 × Mem) :=
  L_L_isBack_94 N N m x1 x2 x5 x7 s0 (0 : Int32)
set_option maxRecDepth 100000 in
set_option maxHeartbeats 4000000 in
theorem bk_L_isBack_89 {N : Nat} {K : KT} {m' : Mem} {r : Int32} (hK : KOK K cL_isBack 14 RL wsL_isBack 10 1 215) (hR : KRb K r m' 1) (hT : KTo K) {m : Mem} {x1 : Int32} {x2 : Int32} {x5 : Int32} {x7 : Int32} {s0 : Int32} (hF : B_L_isBack_89 N m x1 x2 x5 x7 s0 = some (r, m')) : AW K 1 89 [(0, q_r 0), (1, q_i x1), (2, q_i x2), (4, q_r 70), (5, q_i x5), (6, q_r 2147483649), (7, q_i x7)] [q_i s0] m := by
  unfold B_L_isBack_89 at hF
  refine aw_istore hK [(8, q_i s0), (0, q_r 0), (1, q_i x1), (2, q_i x2), (4, q_r 70), (5, q_i x5), (6, q_r 2147483649), (7, q_i x7)] (by decide) rfl dL_isBack_89 ?_
  refine aw_iconst hK (0) rfl dL_isBack_91 ?_
  refine aw_istore hK [(9, q_i (0 : Int32)), (8, q_i s0), (0, q_r 0), (1, q_i x1), (2, q_i x2), (4, q_r 70), (5, q_i x5), (6, q_r 2147483649), (7, q_i x7)] (by decide) rfl dL_isBack_92 ?_
  refine aw_sub [2, 3, 4, 5, 6, 7, 8, 1, 0] (lv' := [(0, q_r 0), (1, q_i x1), (2, q_i x2), (4, q_r 70), (5, q_i x5), (6, q_r 2147483649), (7, q_i x7), (8, q_i s0), (9, q_i (0 : Int32))]) rfl ?_
  exact lp_L_isBack_94 hK hR hT _ hF
def S_L_isBack_48 (N : Nat) (rec_48 : Mem → Int32 → Int32 → Int32 → Int32 → Int32 → Int32 → Option (Int32 × Mem)) (m : Mem) (x1 : Int32) (x2 : Int32) (x3 : Int32) (x5 : Int32) (x7 : Int32) (x8 : Int32) : Option (Int32 × Mem) :=
  if x7 ≤ x8 then (
    cal (F_X7_clear N m) fun r8 m7 =>
    if r8 = x5 then (
      B_L_isBack_89 N m7 x1 x2 x5 x7 (1 : Int32)
    ) else (
      B_L_isBack_89 N m7 x1 x2 x5 x7 (0 : Int32)
    )
  ) else (
    calL (F_X7_answer N m x1 x2 x3 x8) fun r11 m10 =>
    gd (inb x8 8) <|
    bnd (mup m10 2147483649 (ix x8) r11) fun m13 =>
    bnd (x8 + (1 : Int32)) fun y14 =>
    rec_48 m13 x1 x2 x3 x5 x7 y14
  )
def L_L_isBack_48 (N : Nat) : Nat → Mem → Int32 → Int32 → Int32 → Int32 → Int32 → Int32 → Option (Int32 × Mem)
  | 0 => fun _ _ _ _ _ _ _ => none
  | f + 1 => S_L_isBack_48 N (L_L_isBack_48 N f)
set_option maxRecDepth 100000 in
set_option maxHeartbeats 4000000 in
theorem lp_L_isBack_48 {N : Nat} {K : KT} {m' : Mem} {r : Int32} (hK : KOK K cL_isBack 14 RL wsL_isBack 10 1 215) (hR : KRb K r m' 1) (hT : KTo K) : ∀ (f : Nat) {m : Mem} {x1 : Int32} {x2 : Int32} {x3 : Int32} {x5 : Int32} {x7 : Int32} {x8 : Int32}, L_L_isBack_48 N f m x1 x2 x3 x5 x7 x8 = some (r, m') → AW K 1 48 [(0, q_r 0), (1, q_i x1), (2, q_i x2), (3, q_i x3), (4, q_r 70), (5, q_i x5), (6, q_r 2147483649), (7, q_i x7), (8, q_i x8)] [] m := by
  intro f
  induction f with
  | zero => intro m x1 x2 x3 x5 x7 x8 hF; cases hF
  | succ f hrec_48 =>
    intro m x1 x2 x3 x5 x7 x8 hF
    have hF : S_L_isBack_48 N (L_L_isBack_48 N f) m x1 x2 x3 x5 x7 x8 = some (r, m') := hF
    unfold S_L_isBack_48 at hF
    refine aw_iload hK 8 rfl dL_isBack_48 ?_
    refine aw_iload hK 7 rfl dL_isBack_50 ?_
    refine aw_icmp_ge hK 75 rfl dL_isBack_52 (fun hc => ?_) (fun hc => ?_)
    · have hF := if_t hF hc
      refine aw_aload_n hK 0 rfl dL_isBack_75 ?_
      obtain ⟨r8, m7, h6, hF⟩ := cal_some hF
      refine aw_cv hK 7 (as := []) (tr_X7_clear h6) gL_isBack_X7_clear rfl rfl rfl (by decide) (na := 0) (by decide +kernel) rfl ⟨by decide, by decide⟩ (Nat.le_of_ble_eq_true rfl) (Nat.le_of_ble_eq_true rfl) dL_isBack_76 ?_
      refine aw_iload hK 5 rfl dL_isBack_79 ?_
      refine aw_icmp_ne hK 88 rfl dL_isBack_81 (fun hc => ?_) (fun hc => ?_)
      · have hF := if_f hF hc
        refine aw_iconst hK (0) rfl dL_isBack_88 ?_
        refine aw_sub [0, 1, 2, 4, 5, 6, 7] (lv' := [(0, q_r 0), (1, q_i x1), (2, q_i x2), (4, q_r 70), (5, q_i x5), (6, q_r 2147483649), (7, q_i x7)]) rfl ?_
        exact bk_L_isBack_89 hK hR hT hF
      · have hF := if_t hF hc
        refine aw_iconst hK (1) rfl dL_isBack_84 ?_
        refine aw_goto hK 89 rfl dL_isBack_85 ?_
        refine aw_sub [0, 1, 2, 4, 5, 6, 7] (lv' := [(0, q_r 0), (1, q_i x1), (2, q_i x2), (4, q_r 70), (5, q_i x5), (6, q_r 2147483649), (7, q_i x7)]) rfl ?_
        exact bk_L_isBack_89 hK hR hT hF
    · have hF := if_f hF hc
      refine aw_aload hK 6 rfl dL_isBack_55 ?_
      refine aw_iload hK 8 rfl dL_isBack_57 ?_
      refine aw_aload_n hK 0 rfl dL_isBack_59 ?_
      refine aw_iload_n hK 1 rfl dL_isBack_60 ?_
      refine aw_iload_n hK 2 rfl dL_isBack_61 ?_
      refine aw_iload_n hK 3 rfl dL_isBack_62 ?_
      refine aw_iload hK 8 rfl dL_isBack_63 ?_
      obtain ⟨r11, m10, h9, hF⟩ := calL_some hF
      refine aw_cv hK 7 (as := [q_i x1, q_i x2, q_i x3, q_i x8]) (trN_X7_answer h9) gL_isBack_X7_answer rfl rfl rfl (by decide) (na := 4) (by decide +kernel) rfl ⟨by decide, by decide⟩ (Nat.le_of_ble_eq_true rfl) (Nat.le_of_ble_eq_true rfl) dL_isBack_65 ?_
      obtain ⟨g12, hF⟩ := gd_some hF
      refine aw_tast hK hT g12 dL_isBack_68 ?_
      obtain ⟨m13, hm13, hF⟩ := bnd_some hF
      refine aw_mm hm13 ?_
      obtain ⟨y14, hy14, hF⟩ := bnd_some hF
      refine aw_iinc hK (cz := 1) 8 [(8, q_i y14), (0, q_r 0), (1, q_i x1), (2, q_i x2), (3, q_i x3), (4, q_r 70), (5, q_i x5), (6, q_r 2147483649), (7, q_i x7)] (by decide) rfl rfl hy14 rfl dL_isBack_69 ?_
      refine aw_goto hK 48 rfl dL_isBack_72 ?_
      refine aw_sub [1, 2, 3, 4, 5, 6, 7, 8, 0] (lv' := [(0, q_r 0), (1, q_i x1), (2, q_i x2), (3, q_i x3), (4, q_r 70), (5, q_i x5), (6, q_r 2147483649), (7, q_i x7), (8, q_i y14)]) rfl ?_
      exact hrec_48 hF
def B_L_isBack_36 (N : Nat) (m : Mem) (x1 : Int32) (x2 : Int32) (x3 : Int32) (x5 : Int32) (x7 : Int32) : Option (Int32 × Mem) :=
  if x7 ≤ (8 : Int32) then (
    L_L_isBack_48 N N m x1 x2 x3 x5 x7 (0 : Int32)
  ) else (
    some ((1 : Int32), m)
  )
set_option maxRecDepth 100000 in
set_option maxHeartbeats 4000000 in
theorem bk_L_isBack_36 {N : Nat} {K : KT} {m' : Mem} {r : Int32} (hK : KOK K cL_isBack 14 RL wsL_isBack 10 1 215) (hR : KRb K r m' 1) (hT : KTo K) {m : Mem} {x1 : Int32} {x2 : Int32} {x3 : Int32} {x5 : Int32} {x7 : Int32} (hF : B_L_isBack_36 N m x1 x2 x3 x5 x7 = some (r, m')) : AW K 1 36 [(0, q_r 0), (1, q_i x1), (2, q_i x2), (3, q_i x3), (4, q_r 70), (5, q_i x5), (6, q_r 2147483649), (7, q_i x7)] [] m := by
  unfold B_L_isBack_36 at hF
  refine aw_iload hK 7 rfl dL_isBack_36 ?_
  refine aw_bipush hK (8) rfl dL_isBack_38 ?_
  refine aw_icmp_le hK 45 rfl dL_isBack_40 (fun hc => ?_) (fun hc => ?_)
  · have hF := if_t hF hc
    refine aw_iconst hK (0) rfl dL_isBack_45 ?_
    refine aw_istore hK [(8, q_i (0 : Int32)), (0, q_r 0), (1, q_i x1), (2, q_i x2), (3, q_i x3), (4, q_r 70), (5, q_i x5), (6, q_r 2147483649), (7, q_i x7)] (by decide) rfl dL_isBack_46 ?_
    refine aw_sub [1, 2, 3, 4, 5, 6, 7, 8, 0] (lv' := [(0, q_r 0), (1, q_i x1), (2, q_i x2), (3, q_i x3), (4, q_r 70), (5, q_i x5), (6, q_r 2147483649), (7, q_i x7), (8, q_i (0 : Int32))]) rfl ?_
    exact lp_L_isBack_48 hK hR hT _ hF
  · have hF := if_f hF hc
    refine aw_iconst hK (1) rfl dL_isBack_43 ?_
    obtain ⟨rfl, rfl⟩ := so_inj hF
    exact aw_iretB hK hR rfl (by decide) dL_isBack_44
def S_L_isBack_9 (N : Nat) (rec_9 : Mem → Int32 → Int32 → Int32 → Int32 → Int32 → Option (Int32 × Mem)) (m : Mem) (x1 : Int32) (x2 : Int32) (x3 : Int32) (x5 : Int32) (x7 : Int32) : Option (Int32 × Mem) :=
  if (9 : Int32) ≤ x7 then (
    B_L_isBack_36 N m x1 x2 x3 x5 x7
  ) else (
    calL (F_X7_answer N m x1 x2 x3 x7) fun r4 m3 =>
    if (8 : Int32) ≤ r4 then (
      B_L_isBack_36 N m3 x1 x2 x3 x5 x7
    ) else (
      bnd (x7 + (1 : Int32)) fun y5 =>
      rec_9 m3 x1 x2 x3 x5 y5
    )
  )
def L_L_isBack_9 (N : Nat) : Nat → Mem → Int32 → Int32 → Int32 → Int32 → Int32 → Option (Int32 × Mem)
  | 0 => fun _ _ _ _ _ _ => none
  | f + 1 => S_L_isBack_9 N (L_L_isBack_9 N f)
set_option maxRecDepth 100000 in
set_option maxHeartbeats 4000000 in
theorem lp_L_isBack_9 {N : Nat} {K : KT} {m' : Mem} {r : Int32} (hK : KOK K cL_isBack 14 RL wsL_isBack 10 1 215) (hR : KRb K r m' 1) (hT : KTo K) : ∀ (f : Nat) {m : Mem} {x1 : Int32} {x2 : Int32} {x3 : Int32} {x5 : Int32} {x7 : Int32}, L_L_isBack_9 N f m x1 x2 x3 x5 x7 = some (r, m') → AW K 1 9 [(0, q_r 0), (1, q_i x1), (2, q_i x2), (3, q_i x3), (4, q_r 70), (5, q_i x5), (6, q_r 2147483649), (7, q_i x7)] [] m := by
  intro f
  induction f with
  | zero => intro m x1 x2 x3 x5 x7 hF; cases hF
  | succ f hrec_9 =>
    intro m x1 x2 x3 x5 x7 hF
    have hF : S_L_isBack_9 N (L_L_isBack_9 N f) m x1 x2 x3 x5 x7 = some (r, m') := hF
    unfold S_L_isBack_9 at hF
    refine aw_iload hK 7 rfl dL_isBack_9 ?_
    refine aw_bipush hK (9) rfl dL_isBack_11 ?_
    refine aw_icmp_ge hK 36 rfl dL_isBack_13 (fun hc => ?_) (fun hc => ?_)
    · have hF := if_t hF hc
      refine aw_sub [0, 1, 2, 3, 4, 5, 6, 7] (lv' := [(0, q_r 0), (1, q_i x1), (2, q_i x2), (3, q_i x3), (4, q_r 70), (5, q_i x5), (6, q_r 2147483649), (7, q_i x7)]) rfl ?_
      exact bk_L_isBack_36 hK hR hT hF
    · have hF := if_f hF hc
      refine aw_aload_n hK 0 rfl dL_isBack_16 ?_
      refine aw_iload_n hK 1 rfl dL_isBack_17 ?_
      refine aw_iload_n hK 2 rfl dL_isBack_18 ?_
      refine aw_iload_n hK 3 rfl dL_isBack_19 ?_
      refine aw_iload hK 7 rfl dL_isBack_20 ?_
      obtain ⟨r4, m3, h2, hF⟩ := calL_some hF
      refine aw_cv hK 7 (as := [q_i x1, q_i x2, q_i x3, q_i x7]) (trN_X7_answer h2) gL_isBack_X7_answer rfl rfl rfl (by decide) (na := 4) (by decide +kernel) rfl ⟨by decide, by decide⟩ (Nat.le_of_ble_eq_true rfl) (Nat.le_of_ble_eq_true rfl) dL_isBack_22 ?_
      refine aw_bipush hK (8) rfl dL_isBack_25 ?_
      refine aw_icmp_ge hK 36 rfl dL_isBack_27 (fun hc => ?_) (fun hc => ?_)
      · have hF := if_t hF hc
        refine aw_sub [0, 1, 2, 3, 4, 5, 6, 7] (lv' := [(0, q_r 0), (1, q_i x1), (2, q_i x2), (3, q_i x3), (4, q_r 70), (5, q_i x5), (6, q_r 2147483649), (7, q_i x7)]) rfl ?_
        exact bk_L_isBack_36 hK hR hT hF
      · have hF := if_f hF hc
        obtain ⟨y5, hy5, hF⟩ := bnd_some hF
        refine aw_iinc hK (cz := 1) 7 [(7, q_i y5), (0, q_r 0), (1, q_i x1), (2, q_i x2), (3, q_i x3), (4, q_r 70), (5, q_i x5), (6, q_r 2147483649)] (by decide) rfl rfl hy5 rfl dL_isBack_30 ?_
        refine aw_goto hK 9 rfl dL_isBack_33 ?_
        refine aw_sub [1, 2, 3, 4, 5, 6, 7, 0] (lv' := [(0, q_r 0), (1, q_i x1), (2, q_i x2), (3, q_i x3), (4, q_r 70), (5, q_i x5), (6, q_r 2147483649), (7, q_i y5)]) rfl ?_
        exact hrec_9 hF
def F_L_isBack (N : Nat) (m : Mem) (x1 : Int32) (x2 : Int32) (x3 : Int32) (x5 : Int32) : Option (Int32 × Mem) :=
  bnd (mrw m 2147483649 (fun _ => 0)) fun m1 =>
  L_L_isBack_9 N N m1 x1 x2 x3 x5 (0 : Int32)
set_option maxRecDepth 100000 in
set_option maxHeartbeats 4000000 in
theorem trB_L_isBack {N : Nat} {m m' : Mem} {r : Int32} {x1 : Int32} {x2 : Int32} {x3 : Int32} {x5 : Int32} (hF : F_L_isBack N m x1 x2 x3 x5 = some (r, m')) : TrB yL_isBack wsL_isBack 10 215 1 [q_r 0, q_i x1, q_i x2, q_i x3, q_r 70, q_i x5] m r m' := by
  refine trB_of (bytes := cL_isBack) (maxL := 14) (by decide) rfl (Nat.le_of_ble_eq_true rfl) (fun K hK hR hT => ?_)
  have hK : KOK K cL_isBack 14 RL wsL_isBack 10 1 215 := hK
  show AW K 0 0 [(0, q_r 0), (1, q_i x1), (2, q_i x2), (3, q_i x3), (4, q_r 70), (5, q_i x5)] [] m
  unfold F_L_isBack at hF
  refine aw_bipush hK (8) rfl dL_isBack_0 ?_
  refine aw_newTold hK hR hT (List.mem_of_getElem? (i := 1) rfl) (fun _ _ => rfl) (fun _ _ => rfl) (by decide) dL_isBack_2 ?_
  intro K hK hR hT
  obtain ⟨m1, hm1, hF⟩ := bnd_some hF
  refine aw_mm hm1 ?_
  refine aw_astore hK [(6, q_r 2147483649), (0, q_r 0), (1, q_i x1), (2, q_i x2), (3, q_i x3), (4, q_r 70), (5, q_i x5)] (by decide) rfl dL_isBack_4 ?_
  refine aw_iconst hK (0) rfl dL_isBack_6 ?_
  refine aw_istore hK [(7, q_i (0 : Int32)), (6, q_r 2147483649), (0, q_r 0), (1, q_i x1), (2, q_i x2), (3, q_i x3), (4, q_r 70), (5, q_i x5)] (by decide) rfl dL_isBack_7 ?_
  refine aw_sub [2, 3, 4, 5, 6, 7, 1, 0] (lv' := [(0, q_r 0), (1, q_i x1), (2, q_i x2), (3, q_i x3), (4, q_r 70), (5, q_i x5), (6, q_r 2147483649), (7, q_i (0 : Int32))]) rfl ?_
  exact lp_L_isBack_9 hK hR hT _ hF