def B_L_isTrimmed_375 (N : Nat) (m : Mem) (s0 : Int32) : Option (Int32 × Mem) :=
  gd (isb s0) <|
  some (s0, m)
set_option maxRecDepth 100000 in
set_option maxHeartbeats 4000000 in
theorem bk_L_isTrimmed_375 {N : Nat} {K : KT} {m' : Mem} {r : Int32} (hK : KOK K cL_isTrimmed 17 RL wsL_isTrimmed 8 0 135) (hR : KRet K (some .boolean) (some r) m') {m : Mem} {s0 : Int32} (hF : B_L_isTrimmed_375 N m s0 = some (r, m')) : AW K 0 375 [] [q_i s0] m := by
  unfold B_L_isTrimmed_375 at hF
  obtain ⟨g46, hF⟩ := gd_some hF
  obtain ⟨rfl, rfl⟩ := so_inj hF
  exact aw_iret hK hR (isb_narrow g46) dL_isTrimmed_375
def B_L_isTrimmed_374 (N : Nat) (m : Mem) : Option (Int32 × Mem) :=
  B_L_isTrimmed_375 N m (0 : Int32)
set_option maxRecDepth 100000 in
set_option maxHeartbeats 4000000 in
theorem bk_L_isTrimmed_374 {N : Nat} {K : KT} {m' : Mem} {r : Int32} (hK : KOK K cL_isTrimmed 17 RL wsL_isTrimmed 8 0 135) (hR : KRet K (some .boolean) (some r) m') {m : Mem} (hF : B_L_isTrimmed_374 N m = some (r, m')) : AW K 0 374 [] [] m := by
  unfold B_L_isTrimmed_374 at hF
  refine aw_iconst hK (0) rfl dL_isTrimmed_374 ?_
  refine aw_sub [] (lv' := []) rfl ?_
  exact bk_L_isTrimmed_375 hK hR hF
def B_L_isTrimmed_370 (N : Nat) (m : Mem) : Option (Int32 × Mem) :=
  B_L_isTrimmed_375 N m (1 : Int32)
set_option maxRecDepth 100000 in
set_option maxHeartbeats 4000000 in
theorem bk_L_isTrimmed_370 {N : Nat} {K : KT} {m' : Mem} {r : Int32} (hK : KOK K cL_isTrimmed 17 RL wsL_isTrimmed 8 0 135) (hR : KRet K (some .boolean) (some r) m') {m : Mem} (hF : B_L_isTrimmed_370 N m = some (r, m')) : AW K 0 370 [] [] m := by
  unfold B_L_isTrimmed_370 at hF
  refine aw_iconst hK (1) rfl dL_isTrimmed_370 ?_
  refine aw_goto hK 375 rfl dL_isTrimmed_371 ?_
  refine aw_sub [] (lv' := []) rfl ?_
  exact bk_L_isTrimmed_375 hK hR hF
def B_L_isTrimmed_339 (N : Nat) (m : Mem) (x2 : Int32) (x3 : Int32) (x8 : Int32) (x9 : Int32) (x10 : Int64) : Option (Int32 × Mem) :=
  if x9 = (0 : Int32) then (
    B_L_isTrimmed_374 N m
  ) else (
    if x8 = x2 then (
      if (lg_cmp x10 ((l_shl (1 : Int64) x2) - (1 : Int64))) = (0 : Int32) then (
        B_L_isTrimmed_370 N m
      ) else (
        if x2 = (1 : Int32) then (
          if x3 = (0 : Int32) then (
            B_L_isTrimmed_370 N m
          ) else (
            B_L_isTrimmed_374 N m
          )
        ) else (
          B_L_isTrimmed_374 N m
        )
      )
    ) else (
      B_L_isTrimmed_374 N m
    )
  )
set_option maxRecDepth 100000 in
set_option maxHeartbeats 4000000 in
theorem bk_L_isTrimmed_339 {N : Nat} {K : KT} {m' : Mem} {r : Int32} (hK : KOK K cL_isTrimmed 17 RL wsL_isTrimmed 8 0 135) (hR : KRet K (some .boolean) (some r) m') {m : Mem} {x2 : Int32} {x3 : Int32} {x8 : Int32} {x9 : Int32} {x10 : Int64} (hF : B_L_isTrimmed_339 N m x2 x3 x8 x9 x10 = some (r, m')) : AW K 0 339 [(2, q_i x2), (3, q_i x3), (8, q_i x8), (9, q_i x9), (10, q_v (.long x10))] [] m := by
  unfold B_L_isTrimmed_339 at hF
  refine aw_iload hK 3 rfl dL_isTrimmed_339 ?_
  refine aw_if_eq hK 374 rfl dL_isTrimmed_341 (fun hc => ?_) (fun hc => ?_)
  · have hF := if_t hF hc
    refine aw_sub [] (lv' := []) rfl ?_
    exact bk_L_isTrimmed_374 hK hR hF
  · have hF := if_f hF hc
    refine aw_iload hK 2 rfl dL_isTrimmed_344 ?_
    refine aw_iload_n hK 0 rfl dL_isTrimmed_346 ?_
    refine aw_icmp_ne hK 374 rfl dL_isTrimmed_347 (fun hc => ?_) (fun hc => ?_)
    · have hF := if_f hF hc
      refine aw_sub [] (lv' := []) rfl ?_
      exact bk_L_isTrimmed_374 hK hR hF
    · have hF := if_t hF hc
      refine aw_lload hK 4 rfl dL_isTrimmed_350 ?_
      refine aw_lconst hK (1) rfl dL_isTrimmed_352 ?_
      refine aw_iload_n hK 0 rfl dL_isTrimmed_353 ?_
      refine aw_lshl hK dL_isTrimmed_354 ?_
      refine aw_lconst hK (1) rfl dL_isTrimmed_355 ?_
      refine aw_lsub hK dL_isTrimmed_356 ?_
      refine aw_lcmp hK dL_isTrimmed_357 ?_
      refine aw_if_eq hK 370 rfl dL_isTrimmed_358 (fun hc => ?_) (fun hc => ?_)
      · have hF := if_t hF hc
        refine aw_sub [] (lv' := []) rfl ?_
        exact bk_L_isTrimmed_370 hK hR hF
      · have hF := if_f hF hc
        refine aw_iload_n hK 0 rfl dL_isTrimmed_361 ?_
        refine aw_iconst hK (1) rfl dL_isTrimmed_362 ?_
        refine aw_icmp_ne hK 374 rfl dL_isTrimmed_363 (fun hc => ?_) (fun hc => ?_)
        · have hF := if_f hF hc
          refine aw_sub [] (lv' := []) rfl ?_
          exact bk_L_isTrimmed_374 hK hR hF
        · have hF := if_t hF hc
          refine aw_iload_n hK 1 rfl dL_isTrimmed_366 ?_
          refine aw_if_ne hK 374 rfl dL_isTrimmed_367 (fun hc => ?_) (fun hc => ?_)
          · have hF := if_f hF hc
            refine aw_sub [] (lv' := []) rfl ?_
            exact bk_L_isTrimmed_374 hK hR hF
          · have hF := if_t hF hc
            refine aw_sub [] (lv' := []) rfl ?_
            exact bk_L_isTrimmed_370 hK hR hF
def B_L_isTrimmed_327 (N : Nat) (rec_167 : Mem → Int32 → Int32 → Int32 → Int64 → Int32 → Int32 → Int64 → Int32 → Option (Int32 × Mem)) (m : Mem) (x1 : Int32) (x2 : Int32) (x3 : Int32) (x9 : Int32) (x10 : Int64) (x12 : Int32) (x15 : Int64) (s0 : Int32) : Option (Int32 × Mem) :=
  bnd (x12 + (1 : Int32)) fun y45 =>
  rec_167 m x1 x2 x3 x15 s0 x9 x10 y45
set_option maxRecDepth 100000 in
set_option maxHeartbeats 4000000 in
theorem bk_L_isTrimmed_327 {N : Nat} {K : KT} {m' : Mem} {rec_167 : Mem → Int32 → Int32 → Int32 → Int64 → Int32 → Int32 → Int64 → Int32 → Option (Int32 × Mem)} {r : Int32} (hK : KOK K cL_isTrimmed 17 RL wsL_isTrimmed 8 0 135) (hR : KRet K (some .boolean) (some r) m') (hrec_167 : ∀ {m : Mem} {x1 : Int32} {x2 : Int32} {x3 : Int32} {x6 : Int64} {x8 : Int32} {x9 : Int32} {x10 : Int64} {x12 : Int32}, rec_167 m x1 x2 x3 x6 x8 x9 x10 x12 = some (r, m') → AW K 0 167 [(0, q_r 0), (1, q_i x1), (2, q_i x2), (3, q_i x3), (6, q_v (.long x6)), (8, q_i x8), (9, q_i x9), (10, q_v (.long x10)), (12, q_i x12)] [] m) {m : Mem} {x1 : Int32} {x2 : Int32} {x3 : Int32} {x9 : Int32} {x10 : Int64} {x12 : Int32} {x15 : Int64} {s0 : Int32} (hF : B_L_isTrimmed_327 N rec_167 m x1 x2 x3 x9 x10 x12 x15 s0 = some (r, m')) : AW K 0 327 [(0, q_r 0), (1, q_i x1), (2, q_i x2), (3, q_i x3), (9, q_i x9), (10, q_v (.long x10)), (12, q_i x12), (15, q_v (.long x15))] [q_i s0] m := by
  unfold B_L_isTrimmed_327 at hF
  refine aw_istore hK [(8, q_i s0), (0, q_r 0), (1, q_i x1), (2, q_i x2), (3, q_i x3), (9, q_i x9), (10, q_v (.long x10)), (12, q_i x12), (15, q_v (.long x15))] (by decide) rfl dL_isTrimmed_327 ?_
  refine aw_lload hK 8 rfl dL_isTrimmed_329 ?_
  refine aw_lstore hK [(6, q_v (.long x15)), (8, q_i s0), (0, q_r 0), (1, q_i x1), (2, q_i x2), (3, q_i x3), (9, q_i x9), (10, q_v (.long x10)), (12, q_i x12), (15, q_v (.long x15))] (by decide) rfl dL_isTrimmed_331 ?_
  obtain ⟨y45, hy45, hF⟩ := bnd_some hF
  refine aw_iinc hK (cz := 1) 8 [(12, q_i y45), (6, q_v (.long x15)), (8, q_i s0), (0, q_r 0), (1, q_i x1), (2, q_i x2), (3, q_i x3), (9, q_i x9), (10, q_v (.long x10)), (15, q_v (.long x15))] (by decide) rfl rfl hy45 rfl dL_isTrimmed_333 ?_
  refine aw_goto hK 167 rfl dL_isTrimmed_336 ?_
  refine aw_sub [3, 4, 5, 6, 1, 2, 7, 8, 0] (lv' := [(0, q_r 0), (1, q_i x1), (2, q_i x2), (3, q_i x3), (6, q_v (.long x15)), (8, q_i s0), (9, q_i x9), (10, q_v (.long x10)), (12, q_i y45)]) rfl ?_
  exact hrec_167 hF
def B_L_isTrimmed_309 (N : Nat) (rec_167 : Mem → Int32 → Int32 → Int32 → Int64 → Int32 → Int32 → Int64 → Int32 → Option (Int32 × Mem)) (m : Mem) (x1 : Int32) (x2 : Int32) (x3 : Int32) (x8 : Int32) (x10 : Int64) (x12 : Int32) (x14 : Int32) (x15 : Int64) (s0 : Int32) : Option (Int32 × Mem) :=
  if x14 < x8 then (
    B_L_isTrimmed_327 N rec_167 m x1 x2 x3 s0 x10 x12 x15 x8
  ) else (
    B_L_isTrimmed_327 N rec_167 m x1 x2 x3 s0 x10 x12 x15 (x14 + (1 : Int32))
  )
set_option maxRecDepth 100000 in
set_option maxHeartbeats 4000000 in
theorem bk_L_isTrimmed_309 {N : Nat} {K : KT} {m' : Mem} {rec_167 : Mem → Int32 → Int32 → Int32 → Int64 → Int32 → Int32 → Int64 → Int32 → Option (Int32 × Mem)} {r : Int32} (hK : KOK K cL_isTrimmed 17 RL wsL_isTrimmed 8 0 135) (hR : KRet K (some .boolean) (some r) m') (hrec_167 : ∀ {m : Mem} {x1 : Int32} {x2 : Int32} {x3 : Int32} {x6 : Int64} {x8 : Int32} {x9 : Int32} {x10 : Int64} {x12 : Int32}, rec_167 m x1 x2 x3 x6 x8 x9 x10 x12 = some (r, m') → AW K 0 167 [(0, q_r 0), (1, q_i x1), (2, q_i x2), (3, q_i x3), (6, q_v (.long x6)), (8, q_i x8), (9, q_i x9), (10, q_v (.long x10)), (12, q_i x12)] [] m) {m : Mem} {x1 : Int32} {x2 : Int32} {x3 : Int32} {x8 : Int32} {x10 : Int64} {x12 : Int32} {x14 : Int32} {x15 : Int64} {s0 : Int32} (hF : B_L_isTrimmed_309 N rec_167 m x1 x2 x3 x8 x10 x12 x14 x15 s0 = some (r, m')) : AW K 0 309 [(0, q_r 0), (1, q_i x1), (2, q_i x2), (3, q_i x3), (8, q_i x8), (10, q_v (.long x10)), (12, q_i x12), (14, q_i x14), (15, q_v (.long x15))] [q_i s0] m := by
  unfold B_L_isTrimmed_309 at hF
  refine aw_istore hK [(9, q_i s0), (0, q_r 0), (1, q_i x1), (2, q_i x2), (3, q_i x3), (8, q_i x8), (10, q_v (.long x10)), (12, q_i x12), (14, q_i x14), (15, q_v (.long x15))] (by decide) rfl dL_isTrimmed_309 ?_
  refine aw_iload hK 8 rfl dL_isTrimmed_311 ?_
  refine aw_iload hK 5 rfl dL_isTrimmed_313 ?_
  refine aw_icmp_lt hK 325 rfl dL_isTrimmed_315 (fun hc => ?_) (fun hc => ?_)
  · have hF := if_t hF hc
    refine aw_iload hK 5 rfl dL_isTrimmed_325 ?_
    refine aw_sub [1, 2, 3, 4, 0, 6, 7, 9] (lv' := [(0, q_r 0), (1, q_i x1), (2, q_i x2), (3, q_i x3), (9, q_i s0), (10, q_v (.long x10)), (12, q_i x12), (15, q_v (.long x15))]) rfl ?_
    exact bk_L_isTrimmed_327 hK hR hrec_167 hF
  · have hF := if_f hF hc
    refine aw_iload hK 8 rfl dL_isTrimmed_318 ?_
    refine aw_iconst hK (1) rfl dL_isTrimmed_320 ?_
    refine aw_iadd hK dL_isTrimmed_321 ?_
    refine aw_goto hK 327 rfl dL_isTrimmed_322 ?_
    refine aw_sub [1, 2, 3, 4, 0, 6, 7, 9] (lv' := [(0, q_r 0), (1, q_i x1), (2, q_i x2), (3, q_i x3), (9, q_i s0), (10, q_v (.long x10)), (12, q_i x12), (15, q_v (.long x15))]) rfl ?_
    exact bk_L_isTrimmed_327 hK hR hrec_167 hF
def B_L_isTrimmed_308 (N : Nat) (rec_167 : Mem → Int32 → Int32 → Int32 → Int64 → Int32 → Int32 → Int64 → Int32 → Option (Int32 × Mem)) (m : Mem) (x1 : Int32) (x2 : Int32) (x3 : Int32) (x8 : Int32) (x10 : Int64) (x12 : Int32) (x14 : Int32) (x15 : Int64) : Option (Int32 × Mem) :=
  B_L_isTrimmed_309 N rec_167 m x1 x2 x3 x8 x10 x12 x14 x15 (0 : Int32)
set_option maxRecDepth 100000 in
set_option maxHeartbeats 4000000 in
theorem bk_L_isTrimmed_308 {N : Nat} {K : KT} {m' : Mem} {rec_167 : Mem → Int32 → Int32 → Int32 → Int64 → Int32 → Int32 → Int64 → Int32 → Option (Int32 × Mem)} {r : Int32} (hK : KOK K cL_isTrimmed 17 RL wsL_isTrimmed 8 0 135) (hR : KRet K (some .boolean) (some r) m') (hrec_167 : ∀ {m : Mem} {x1 : Int32} {x2 : Int32} {x3 : Int32} {x6 : Int64} {x8 : Int32} {x9 : Int32} {x10 : Int64} {x12 : Int32}, rec_167 m x1 x2 x3 x6 x8 x9 x10 x12 = some (r, m') → AW K 0 167 [(0, q_r 0), (1, q_i x1), (2, q_i x2), (3, q_i x3), (6, q_v (.long x6)), (8, q_i x8), (9, q_i x9), (10, q_v (.long x10)), (12, q_i x12)] [] m) {m : Mem} {x1 : Int32} {x2 : Int32} {x3 : Int32} {x8 : Int32} {x10 : Int64} {x12 : Int32} {x14 : Int32} {x15 : Int64} (hF : B_L_isTrimmed_308 N rec_167 m x1 x2 x3 x8 x10 x12 x14 x15 = some (r, m')) : AW K 0 308 [(0, q_r 0), (1, q_i x1), (2, q_i x2), (3, q_i x3), (8, q_i x8), (10, q_v (.long x10)), (12, q_i x12), (14, q_i x14), (15, q_v (.long x15))] [] m := by
  unfold B_L_isTrimmed_308 at hF
  refine aw_iconst hK (0) rfl dL_isTrimmed_308 ?_
  refine aw_sub [0, 1, 2, 3, 4, 5, 6, 7, 8] (lv' := [(0, q_r 0), (1, q_i x1), (2, q_i x2), (3, q_i x3), (8, q_i x8), (10, q_v (.long x10)), (12, q_i x12), (14, q_i x14), (15, q_v (.long x15))]) rfl ?_
  exact bk_L_isTrimmed_309 hK hR hrec_167 hF
def S_L_isTrimmed_167 (N : Nat) (rec_167 : Mem → Int32 → Int32 → Int32 → Int64 → Int32 → Int32 → Int64 → Int32 → Option (Int32 × Mem)) (m : Mem) (x1 : Int32) (x2 : Int32) (x3 : Int32) (x6 : Int64) (x8 : Int32) (x9 : Int32) (x10 : Int64) (x12 : Int32) : Option (Int32 × Mem) :=
  if x3 ≤ x12 then (
    B_L_isTrimmed_339 N m x2 x3 x8 x9 x10
  ) else (
    if x9 = (0 : Int32) then (
      B_L_isTrimmed_339 N m x2 x3 x8 x9 x10
    ) else (
      calL (F_X7_arc N m x1 x12 (0 : Int32)) fun r25 m24 =>
      calL (F_X7_arc N m24 x1 x12 (4 : Int32)) fun r28 m27 =>
      calL (F_X7_arc N m27 x1 x12 (1 : Int32)) fun r31 m30 =>
      calL (F_X7_arc N m30 x1 x12 (2 : Int32)) fun r34 m33 =>
      bnd (((((((r25.toInt64) * (16 : Int64)) + (r31.toInt64)) * (16 : Int64)) + (r34.toInt64)) * (64 : Int64)) + (r28.toInt64)) fun y35 =>
      if (lg_cmp y35 x6) ≤ (0 : Int32) then (
        B_L_isTrimmed_308 N rec_167 m33 x1 x2 x3 x8 x10 x12 r28 y35
      ) else (
        if x8 ≤ r25 then (
          B_L_isTrimmed_308 N rec_167 m33 x1 x2 x3 x8 x10 x12 r28 y35
        ) else (
          if x8 < r28 then (
            B_L_isTrimmed_308 N rec_167 m33 x1 x2 x3 x8 x10 x12 r28 y35
          ) else (
            if x2 ≤ r28 then (
              B_L_isTrimmed_308 N rec_167 m33 x1 x2 x3 x8 x10 x12 r28 y35
            ) else (
              calL (F_X7_arc N m33 x1 x12 (1 : Int32)) fun r38 m37 =>
              if (9 : Int32) ≤ r38 then (
                B_L_isTrimmed_308 N rec_167 m37 x1 x2 x3 x8 x10 x12 r28 y35
              ) else (
                calL (F_X7_arc N m37 x1 x12 (2 : Int32)) fun r41 m40 =>
                if (9 : Int32) ≤ r41 then (
                  B_L_isTrimmed_308 N rec_167 m40 x1 x2 x3 x8 x10 x12 r28 y35
                ) else (
                  calL (F_X7_arc N m40 x1 x12 (3 : Int32)) fun r44 m43 =>
                  if r44 < (0 : Int32) then (
                    B_L_isTrimmed_308 N rec_167 m43 x1 x2 x3 x8 x10 x12 r28 y35
                  ) else (
                    B_L_isTrimmed_309 N rec_167 m43 x1 x2 x3 x8 x10 x12 r28 y35 (1 : Int32)
                  )
                )
              )
            )
          )
        )
      )
    )
  )
def L_L_isTrimmed_167 (N : Nat) : Nat → Mem → Int32 → Int32 → Int32 → Int64 → Int32 → Int32 → Int64 → Int32 → Option (Int32 × Mem)
  | 0 => fun _ _ _ _ _ _ _ _ _ => none
  | f + 1 => S_L_isTrimmed_167 N (L_L_isTrimmed_167 N f)
set_option maxRecDepth 100000 in
set_option maxHeartbeats 4000000 in
theorem lp_L_isTrimmed_167 {N : Nat} {K : KT} {m' : Mem} {r : Int32} (hK : KOK K cL_isTrimmed 17 RL wsL_isTrimmed 8 0 135) (hR : KRet K (some .boolean) (some r) m') : ∀ (f : Nat) {m : Mem} {x1 : Int32} {x2 : Int32} {x3 : Int32} {x6 : Int64} {x8 : Int32} {x9 : Int32} {x10 : Int64} {x12 : Int32}, L_L_isTrimmed_167 N f m x1 x2 x3 x6 x8 x9 x10 x12 = some (r, m') → AW K 0 167 [(0, q_r 0), (1, q_i x1), (2, q_i x2), (3, q_i x3), (6, q_v (.long x6)), (8, q_i x8), (9, q_i x9), (10, q_v (.long x10)), (12, q_i x12)] [] m := by
  intro f
  induction f with
  | zero => intro m x1 x2 x3 x6 x8 x9 x10 x12 hF; cases hF
  | succ f hrec_167 =>
    intro m x1 x2 x3 x6 x8 x9 x10 x12 hF
    have hF : S_L_isTrimmed_167 N (L_L_isTrimmed_167 N f) m x1 x2 x3 x6 x8 x9 x10 x12 = some (r, m') := hF
    unfold S_L_isTrimmed_167 at hF
    refine aw_iload hK 8 rfl dL_isTrimmed_167 ?_
    refine aw_iload_n hK 3 rfl dL_isTrimmed_169 ?_
    refine aw_icmp_ge hK 339 rfl dL_isTrimmed_170 (fun hc => ?_) (fun hc => ?_)
    · have hF := if_t hF hc
      refine aw_sub [2, 3, 5, 6, 7] (lv' := [(2, q_i x2), (3, q_i x3), (8, q_i x8), (9, q_i x9), (10, q_v (.long x10))]) rfl ?_
      exact bk_L_isTrimmed_339 hK hR hF
    · have hF := if_f hF hc
      refine aw_iload hK 6 rfl dL_isTrimmed_173 ?_
      refine aw_if_eq hK 339 rfl dL_isTrimmed_175 (fun hc => ?_) (fun hc => ?_)
      · have hF := if_t hF hc
        refine aw_sub [2, 3, 5, 6, 7] (lv' := [(2, q_i x2), (3, q_i x3), (8, q_i x8), (9, q_i x9), (10, q_v (.long x10))]) rfl ?_
        exact bk_L_isTrimmed_339 hK hR hF
      · have hF := if_f hF hc
        refine aw_aload_n hK 0 rfl dL_isTrimmed_178 ?_
        refine aw_iload_n hK 1 rfl dL_isTrimmed_179 ?_
        refine aw_iload hK 8 rfl dL_isTrimmed_180 ?_
        refine aw_iconst hK (0) rfl dL_isTrimmed_182 ?_
        obtain ⟨r25, m24, h23, hF⟩ := calL_some hF
        refine aw_cv hK 7 (as := [q_i x1, q_i x12, q_i (0 : Int32)]) (trN_X7_arc h23) gL_isTrimmed_X7_arc rfl rfl rfl (by decide) (na := 3) (by decide +kernel) rfl ⟨by decide, by decide⟩ (Nat.zero_le _) (Nat.le_of_ble_eq_true rfl) dL_isTrimmed_183 ?_
        refine aw_istore hK [(13, q_i r25), (0, q_r 0), (1, q_i x1), (2, q_i x2), (3, q_i x3), (6, q_v (.long x6)), (8, q_i x8), (9, q_i x9), (10, q_v (.long x10)), (12, q_i x12)] (by decide) rfl dL_isTrimmed_186 ?_
        refine aw_aload_n hK 1 rfl dL_isTrimmed_188 ?_
        refine aw_iload_n hK 2 rfl dL_isTrimmed_189 ?_
        refine aw_iload hK 9 rfl dL_isTrimmed_190 ?_
        refine aw_iconst hK (4) rfl dL_isTrimmed_192 ?_
        obtain ⟨r28, m27, h26, hF⟩ := calL_some hF
        refine aw_cv hK 7 (as := [q_i x1, q_i x12, q_i (4 : Int32)]) (trN_X7_arc h26) gL_isTrimmed_X7_arc rfl rfl rfl (by decide) (na := 3) (by decide +kernel) rfl ⟨by decide, by decide⟩ (Nat.zero_le _) (Nat.le_of_ble_eq_true rfl) dL_isTrimmed_193 ?_
        refine aw_istore hK [(14, q_i r28), (13, q_i r25), (0, q_r 0), (1, q_i x1), (2, q_i x2), (3, q_i x3), (6, q_v (.long x6)), (8, q_i x8), (9, q_i x9), (10, q_v (.long x10)), (12, q_i x12)] (by decide) rfl dL_isTrimmed_196 ?_
        refine aw_iload hK 1 rfl dL_isTrimmed_198 ?_
        refine aw_i2l hK dL_isTrimmed_200 ?_
        refine aw_ldc2 hK (16) (List.mem_of_getElem? (i := 2) rfl) dL_isTrimmed_201 ?_
        refine aw_lmul hK dL_isTrimmed_204 ?_
        refine aw_aload_n hK 2 rfl dL_isTrimmed_205 ?_
        refine aw_iload_n hK 3 rfl dL_isTrimmed_206 ?_
        refine aw_iload hK 10 rfl dL_isTrimmed_207 ?_
        refine aw_iconst hK (1) rfl dL_isTrimmed_209 ?_
        obtain ⟨r31, m30, h29, hF⟩ := calL_some hF
        refine aw_cv hK 7 (as := [q_i x1, q_i x12, q_i (1 : Int32)]) (trN_X7_arc h29) gL_isTrimmed_X7_arc rfl rfl rfl (by decide) (na := 3) (by decide +kernel) rfl ⟨by decide, by decide⟩ (Nat.zero_le _) (Nat.le_of_ble_eq_true rfl) dL_isTrimmed_210 ?_
        refine aw_i2l hK dL_isTrimmed_213 ?_
        refine aw_ladd hK dL_isTrimmed_214 ?_
        refine aw_ldc2 hK (16) (List.mem_of_getElem? (i := 2) rfl) dL_isTrimmed_215 ?_
        refine aw_lmul hK dL_isTrimmed_218 ?_
        refine aw_aload_n hK 2 rfl dL_isTrimmed_219 ?_
        refine aw_iload_n hK 3 rfl dL_isTrimmed_220 ?_
        refine aw_iload hK 10 rfl dL_isTrimmed_221 ?_
        refine aw_iconst hK (2) rfl dL_isTrimmed_223 ?_
        obtain ⟨r34, m33, h32, hF⟩ := calL_some hF
        refine aw_cv hK 7 (as := [q_i x1, q_i x12, q_i (2 : Int32)]) (trN_X7_arc h32) gL_isTrimmed_X7_arc rfl rfl rfl (by decide) (na := 3) (by decide +kernel) rfl ⟨by decide, by decide⟩ (Nat.zero_le _) (Nat.le_of_ble_eq_true rfl) dL_isTrimmed_224 ?_
        refine aw_i2l hK dL_isTrimmed_227 ?_
        refine aw_ladd hK dL_isTrimmed_228 ?_
        refine aw_ldc2 hK (64) (List.mem_of_getElem? (i := 3) rfl) dL_isTrimmed_229 ?_
        refine aw_lmul hK dL_isTrimmed_232 ?_
        refine aw_iload hK 0 rfl dL_isTrimmed_233 ?_
        refine aw_i2l hK dL_isTrimmed_235 ?_
        refine aw_ladd hK dL_isTrimmed_236 ?_
        obtain ⟨y35, hy35, hF⟩ := bnd_some hF
        refine aw_nl hy35 ?_
        refine aw_lstore hK [(15, q_v (.long y35)), (14, q_i r28), (13, q_i r25), (0, q_r 0), (1, q_i x1), (2, q_i x2), (3, q_i x3), (6, q_v (.long x6)), (8, q_i x8), (9, q_i x9), (10, q_v (.long x10)), (12, q_i x12)] (by decide) rfl dL_isTrimmed_237 ?_
        refine aw_lload hK 0 rfl dL_isTrimmed_239 ?_
        refine aw_lload hK 7 rfl dL_isTrimmed_241 ?_
        refine aw_lcmp hK dL_isTrimmed_243 ?_
        refine aw_if_le hK 308 rfl dL_isTrimmed_244 (fun hc => ?_) (fun hc => ?_)
        · have hF := if_t hF hc
          refine aw_sub [3, 4, 5, 6, 8, 10, 11, 1, 0] (lv' := [(0, q_r 0), (1, q_i x1), (2, q_i x2), (3, q_i x3), (8, q_i x8), (10, q_v (.long x10)), (12, q_i x12), (14, q_i r28), (15, q_v (.long y35))]) rfl ?_
          exact bk_L_isTrimmed_308 hK hR hrec_167 hF
        · have hF := if_f hF hc
          refine aw_iload hK 2 rfl dL_isTrimmed_247 ?_
          refine aw_iload hK 8 rfl dL_isTrimmed_249 ?_
          refine aw_icmp_ge hK 308 rfl dL_isTrimmed_251 (fun hc => ?_) (fun hc => ?_)
          · have hF := if_t hF hc
            refine aw_sub [3, 4, 5, 6, 8, 10, 11, 1, 0] (lv' := [(0, q_r 0), (1, q_i x1), (2, q_i x2), (3, q_i x3), (8, q_i x8), (10, q_v (.long x10)), (12, q_i x12), (14, q_i r28), (15, q_v (.long y35))]) rfl ?_
            exact bk_L_isTrimmed_308 hK hR hrec_167 hF
          · have hF := if_f hF hc
            refine aw_iload hK 1 rfl dL_isTrimmed_254 ?_
            refine aw_iload hK 8 rfl dL_isTrimmed_256 ?_
            refine aw_icmp_gt hK 308 rfl dL_isTrimmed_258 (fun hc => ?_) (fun hc => ?_)
            · have hF := if_t hF hc
              refine aw_sub [3, 4, 5, 6, 8, 10, 11, 1, 0] (lv' := [(0, q_r 0), (1, q_i x1), (2, q_i x2), (3, q_i x3), (8, q_i x8), (10, q_v (.long x10)), (12, q_i x12), (14, q_i r28), (15, q_v (.long y35))]) rfl ?_
              exact bk_L_isTrimmed_308 hK hR hrec_167 hF
            · have hF := if_f hF hc
              refine aw_iload hK 1 rfl dL_isTrimmed_261 ?_
              refine aw_iload_n hK 5 rfl dL_isTrimmed_263 ?_
              refine aw_icmp_ge hK 308 rfl dL_isTrimmed_264 (fun hc => ?_) (fun hc => ?_)
              · have hF := if_t hF hc
                refine aw_sub [3, 4, 5, 6, 8, 10, 11, 1, 0] (lv' := [(0, q_r 0), (1, q_i x1), (2, q_i x2), (3, q_i x3), (8, q_i x8), (10, q_v (.long x10)), (12, q_i x12), (14, q_i r28), (15, q_v (.long y35))]) rfl ?_
                exact bk_L_isTrimmed_308 hK hR hrec_167 hF
              · have hF := if_f hF hc
                refine aw_aload_n hK 3 rfl dL_isTrimmed_267 ?_
                refine aw_iload_n hK 4 rfl dL_isTrimmed_268 ?_
                refine aw_iload hK 11 rfl dL_isTrimmed_269 ?_
                refine aw_iconst hK (1) rfl dL_isTrimmed_271 ?_
                obtain ⟨r38, m37, h36, hF⟩ := calL_some hF
                refine aw_cv hK 7 (as := [q_i x1, q_i x12, q_i (1 : Int32)]) (trN_X7_arc h36) gL_isTrimmed_X7_arc rfl rfl rfl (by decide) (na := 3) (by decide +kernel) rfl ⟨by decide, by decide⟩ (Nat.zero_le _) (Nat.le_of_ble_eq_true rfl) dL_isTrimmed_272 ?_
                refine aw_bipush hK (9) rfl dL_isTrimmed_275 ?_
                refine aw_icmp_ge hK 308 rfl dL_isTrimmed_277 (fun hc => ?_) (fun hc => ?_)
                · have hF := if_t hF hc
                  refine aw_sub [3, 4, 5, 6, 8, 10, 11, 1, 0] (lv' := [(0, q_r 0), (1, q_i x1), (2, q_i x2), (3, q_i x3), (8, q_i x8), (10, q_v (.long x10)), (12, q_i x12), (14, q_i r28), (15, q_v (.long y35))]) rfl ?_
                  exact bk_L_isTrimmed_308 hK hR hrec_167 hF
                · have hF := if_f hF hc
                  refine aw_aload_n hK 3 rfl dL_isTrimmed_280 ?_
                  refine aw_iload_n hK 4 rfl dL_isTrimmed_281 ?_
                  refine aw_iload hK 11 rfl dL_isTrimmed_282 ?_
                  refine aw_iconst hK (2) rfl dL_isTrimmed_284 ?_
                  obtain ⟨r41, m40, h39, hF⟩ := calL_some hF
                  refine aw_cv hK 7 (as := [q_i x1, q_i x12, q_i (2 : Int32)]) (trN_X7_arc h39) gL_isTrimmed_X7_arc rfl rfl rfl (by decide) (na := 3) (by decide +kernel) rfl ⟨by decide, by decide⟩ (Nat.zero_le _) (Nat.le_of_ble_eq_true rfl) dL_isTrimmed_285 ?_
                  refine aw_bipush hK (9) rfl dL_isTrimmed_288 ?_
                  refine aw_icmp_ge hK 308 rfl dL_isTrimmed_290 (fun hc => ?_) (fun hc => ?_)
                  · have hF := if_t hF hc
                    refine aw_sub [3, 4, 5, 6, 8, 10, 11, 1, 0] (lv' := [(0, q_r 0), (1, q_i x1), (2, q_i x2), (3, q_i x3), (8, q_i x8), (10, q_v (.long x10)), (12, q_i x12), (14, q_i r28), (15, q_v (.long y35))]) rfl ?_
                    exact bk_L_isTrimmed_308 hK hR hrec_167 hF
                  · have hF := if_f hF hc
                    refine aw_aload_n hK 3 rfl dL_isTrimmed_293 ?_
                    refine aw_iload_n hK 4 rfl dL_isTrimmed_294 ?_
                    refine aw_iload hK 11 rfl dL_isTrimmed_295 ?_
                    refine aw_iconst hK (3) rfl dL_isTrimmed_297 ?_
                    obtain ⟨r44, m43, h42, hF⟩ := calL_some hF
                    refine aw_cv hK 7 (as := [q_i x1, q_i x12, q_i (3 : Int32)]) (trN_X7_arc h42) gL_isTrimmed_X7_arc rfl rfl rfl (by decide) (na := 3) (by decide +kernel) rfl ⟨by decide, by decide⟩ (Nat.zero_le _) (Nat.le_of_ble_eq_true rfl) dL_isTrimmed_298 ?_
                    refine aw_if_lt hK 308 rfl dL_isTrimmed_301 (fun hc => ?_) (fun hc => ?_)
                    · have hF := if_t hF hc
                      refine aw_sub [3, 4, 5, 6, 8, 10, 11, 1, 0] (lv' := [(0, q_r 0), (1, q_i x1), (2, q_i x2), (3, q_i x3), (8, q_i x8), (10, q_v (.long x10)), (12, q_i x12), (14, q_i r28), (15, q_v (.long y35))]) rfl ?_
                      exact bk_L_isTrimmed_308 hK hR hrec_167 hF
                    · have hF := if_f hF hc
                      refine aw_iconst hK (1) rfl dL_isTrimmed_304 ?_
                      refine aw_goto hK 309 rfl dL_isTrimmed_305 ?_
                      refine aw_sub [3, 4, 5, 6, 8, 10, 11, 1, 0] (lv' := [(0, q_r 0), (1, q_i x1), (2, q_i x2), (3, q_i x3), (8, q_i x8), (10, q_v (.long x10)), (12, q_i x12), (14, q_i r28), (15, q_v (.long y35))]) rfl ?_
                      exact bk_L_isTrimmed_309 hK hR hrec_167 hF
def B_L_isTrimmed_149 (N : Nat) (rec_100 : Mem → Int32 → Int32 → Int32 → Int64 → Int32 → Int32 → Int64 → Int32 → Option (Int32 × Mem)) (rec_109 : Mem → Int32 → Int32 → Int32 → Int64 → Int32 → Int32 → Int64 → Int32 → Int32 → Option (Int32 × Mem)) (m : Mem) (x1 : Int32) (x2 : Int32) (x3 : Int32) (x6 : Int64) (x8 : Int32) (x9 : Int32) (x12 : Int32) (x13 : Int32) (s0 : Int64) (s1 : Int64) : Option (Int32 × Mem) :=
  bnd (s1 ||| s0) fun y21 =>
  bnd (x13 + (1 : Int32)) fun y22 =>
  rec_109 m x1 x2 x3 x6 x8 x9 y21 x12 y22
set_option maxRecDepth 100000 in
set_option maxHeartbeats 4000000 in
theorem bk_L_isTrimmed_149 {N : Nat} {K : KT} {m' : Mem} {rec_100 : Mem → Int32 → Int32 → Int32 → Int64 → Int32 → Int32 → Int64 → Int32 → Option (Int32 × Mem)} {rec_109 : Mem → Int32 → Int32 → Int32 → Int64 → Int32 → Int32 → Int64 → Int32 → Int32 → Option (Int32 × Mem)} {r : Int32} (hK : KOK K cL_isTrimmed 17 RL wsL_isTrimmed 8 0 135) (hR : KRet K (some .boolean) (some r) m') (hrec_100 : ∀ {m : Mem} {x1 : Int32} {x2 : Int32} {x3 : Int32} {x6 : Int64} {x8 : Int32} {x9 : Int32} {x10 : Int64} {x12 : Int32}, rec_100 m x1 x2 x3 x6 x8 x9 x10 x12 = some (r, m') → AW K 0 100 [(0, q_r 0), (1, q_i x1), (2, q_i x2), (3, q_i x3), (6, q_v (.long x6)), (8, q_i x8), (9, q_i x9), (10, q_v (.long x10)), (12, q_i x12)] [] m) (hrec_109 : ∀ {m : Mem} {x1 : Int32} {x2 : Int32} {x3 : Int32} {x6 : Int64} {x8 : Int32} {x9 : Int32} {x10 : Int64} {x12 : Int32} {x13 : Int32}, rec_109 m x1 x2 x3 x6 x8 x9 x10 x12 x13 = some (r, m') → AW K 0 109 [(0, q_r 0), (1, q_i x1), (2, q_i x2), (3, q_i x3), (6, q_v (.long x6)), (8, q_i x8), (9, q_i x9), (10, q_v (.long x10)), (12, q_i x12), (13, q_i x13)] [] m) {m : Mem} {x1 : Int32} {x2 : Int32} {x3 : Int32} {x6 : Int64} {x8 : Int32} {x9 : Int32} {x12 : Int32} {x13 : Int32} {s0 : Int64} {s1 : Int64} (hF : B_L_isTrimmed_149 N rec_100 rec_109 m x1 x2 x3 x6 x8 x9 x12 x13 s0 s1 = some (r, m')) : AW K 0 149 [(0, q_r 0), (1, q_i x1), (2, q_i x2), (3, q_i x3), (6, q_v (.long x6)), (8, q_i x8), (9, q_i x9), (12, q_i x12), (13, q_i x13)] [q_v (.long s0), q_v (.long s1)] m := by
  unfold B_L_isTrimmed_149 at hF
  refine aw_lor hK dL_isTrimmed_149 ?_
  obtain ⟨y21, hy21, hF⟩ := bnd_some hF
  refine aw_nl hy21 ?_
  refine aw_lstore hK [(10, q_v (.long y21)), (0, q_r 0), (1, q_i x1), (2, q_i x2), (3, q_i x3), (6, q_v (.long x6)), (8, q_i x8), (9, q_i x9), (12, q_i x12), (13, q_i x13)] (by decide) rfl dL_isTrimmed_150 ?_
  obtain ⟨y22, hy22, hF⟩ := bnd_some hF
  refine aw_iinc hK (cz := 1) 9 [(13, q_i y22), (10, q_v (.long y21)), (0, q_r 0), (1, q_i x1), (2, q_i x2), (3, q_i x3), (6, q_v (.long x6)), (8, q_i x8), (9, q_i x9), (12, q_i x12)] (by decide) rfl rfl hy22 rfl dL_isTrimmed_152 ?_
  refine aw_goto hK 109 rfl dL_isTrimmed_155 ?_
  refine aw_sub [2, 3, 4, 5, 6, 7, 8, 1, 9, 0] (lv' := [(0, q_r 0), (1, q_i x1), (2, q_i x2), (3, q_i x3), (6, q_v (.long x6)), (8, q_i x8), (9, q_i x9), (10, q_v (.long y21)), (12, q_i x12), (13, q_i y22)]) rfl ?_
  exact hrec_109 hF
def S_L_isTrimmed_109 (N : Nat) (rec_100 : Mem → Int32 → Int32 → Int32 → Int64 → Int32 → Int32 → Int64 → Int32 → Option (Int32 × Mem)) (rec_109 : Mem → Int32 → Int32 → Int32 → Int64 → Int32 → Int32 → Int64 → Int32 → Int32 → Option (Int32 × Mem)) (m : Mem) (x1 : Int32) (x2 : Int32) (x3 : Int32) (x6 : Int64) (x8 : Int32) (x9 : Int32) (x10 : Int64) (x12 : Int32) (x13 : Int32) : Option (Int32 × Mem) :=
  if x3 ≤ x13 then (
    bnd (x12 + (1 : Int32)) fun y14 =>
    rec_100 m x1 x2 x3 x6 x8 x9 x10 y14
  ) else (
    calL (F_X7_arc N m x1 x13 (4 : Int32)) fun r17 m16 =>
    if (lg_cmp ((l_shr x10 r17) &&& (1 : Int64)) (1 : Int64)) = (0 : Int32) then (
      calL (F_X7_arc N m16 x1 x13 (0 : Int32)) fun r20 m19 =>
      B_L_isTrimmed_149 N rec_100 rec_109 m19 x1 x2 x3 x6 x8 x9 x12 x13 (l_shl (1 : Int64) r20) x10
    ) else (
      B_L_isTrimmed_149 N rec_100 rec_109 m16 x1 x2 x3 x6 x8 x9 x12 x13 (0 : Int64) x10
    )
  )
def L_L_isTrimmed_109 (N : Nat) (rec_100 : Mem → Int32 → Int32 → Int32 → Int64 → Int32 → Int32 → Int64 → Int32 → Option (Int32 × Mem)) : Nat → Mem → Int32 → Int32 → Int32 → Int64 → Int32 → Int32 → Int64 → Int32 → Int32 → Option (Int32 × Mem)
  | 0 => fun _ _ _ _ _ _ _ _ _ _ => none
  | f + 1 => S_L_isTrimmed_109 N rec_100 (L_L_isTrimmed_109 N rec_100 f)
set_option maxRecDepth 100000 in
set_option maxHeartbeats 4000000 in
theorem lp_L_isTrimmed_109 {N : Nat} {K : KT} {m' : Mem} {rec_100 : Mem → Int32 → Int32 → Int32 → Int64 → Int32 → Int32 → Int64 → Int32 → Option (Int32 × Mem)} {r : Int32} (hK : KOK K cL_isTrimmed 17 RL wsL_isTrimmed 8 0 135) (hR : KRet K (some .boolean) (some r) m') (hrec_100 : ∀ {m : Mem} {x1 : Int32} {x2 : Int32} {x3 : Int32} {x6 : Int64} {x8 : Int32} {x9 : Int32} {x10 : Int64} {x12 : Int32}, rec_100 m x1 x2 x3 x6 x8 x9 x10 x12 = some (r, m') → AW K 0 100 [(0, q_r 0), (1, q_i x1), (2, q_i x2), (3, q_i x3), (6, q_v (.long x6)), (8, q_i x8), (9, q_i x9), (10, q_v (.long x10)), (12, q_i x12)] [] m) : ∀ (f : Nat) {m : Mem} {x1 : Int32} {x2 : Int32} {x3 : Int32} {x6 : Int64} {x8 : Int32} {x9 : Int32} {x10 : Int64} {x12 : Int32} {x13 : Int32}, L_L_isTrimmed_109 N rec_100 f m x1 x2 x3 x6 x8 x9 x10 x12 x13 = some (r, m') → AW K 0 109 [(0, q_r 0), (1, q_i x1), (2, q_i x2), (3, q_i x3), (6, q_v (.long x6)), (8, q_i x8), (9, q_i x9), (10, q_v (.long x10)), (12, q_i x12), (13, q_i x13)] [] m := by
  intro f
  induction f with
  | zero => intro m x1 x2 x3 x6 x8 x9 x10 x12 x13 hF; cases hF
  | succ f hrec_109 =>
    intro m x1 x2 x3 x6 x8 x9 x10 x12 x13 hF
    have hF : S_L_isTrimmed_109 N rec_100 (L_L_isTrimmed_109 N rec_100 f) m x1 x2 x3 x6 x8 x9 x10 x12 x13 = some (r, m') := hF
    unfold S_L_isTrimmed_109 at hF
    refine aw_iload hK 9 rfl dL_isTrimmed_109 ?_
    refine aw_iload_n hK 3 rfl dL_isTrimmed_111 ?_
    refine aw_icmp_ge hK 158 rfl dL_isTrimmed_112 (fun hc => ?_) (fun hc => ?_)
    · have hF := if_t hF hc
      obtain ⟨y14, hy14, hF⟩ := bnd_some hF
      refine aw_iinc hK (cz := 1) 8 [(12, q_i y14), (0, q_r 0), (1, q_i x1), (2, q_i x2), (3, q_i x3), (6, q_v (.long x6)), (8, q_i x8), (9, q_i x9), (10, q_v (.long x10)), (13, q_i x13)] (by decide) rfl rfl hy14 rfl dL_isTrimmed_158 ?_
      refine aw_goto hK 100 rfl dL_isTrimmed_161 ?_
      refine aw_sub [1, 2, 3, 4, 5, 6, 7, 8, 0] (lv' := [(0, q_r 0), (1, q_i x1), (2, q_i x2), (3, q_i x3), (6, q_v (.long x6)), (8, q_i x8), (9, q_i x9), (10, q_v (.long x10)), (12, q_i y14)]) rfl ?_
      exact hrec_100 hF
    · have hF := if_f hF hc
      refine aw_lload hK 7 rfl dL_isTrimmed_115 ?_
      refine aw_lload hK 7 rfl dL_isTrimmed_117 ?_
      refine aw_aload_n hK 0 rfl dL_isTrimmed_119 ?_
      refine aw_iload_n hK 1 rfl dL_isTrimmed_120 ?_
      refine aw_iload hK 9 rfl dL_isTrimmed_121 ?_
      refine aw_iconst hK (4) rfl dL_isTrimmed_123 ?_
      obtain ⟨r17, m16, h15, hF⟩ := calL_some hF
      refine aw_cv hK 7 (as := [q_i x1, q_i x13, q_i (4 : Int32)]) (trN_X7_arc h15) gL_isTrimmed_X7_arc rfl rfl rfl (by decide) (na := 3) (by decide +kernel) rfl ⟨by decide, by decide⟩ (Nat.zero_le _) (Nat.le_of_ble_eq_true rfl) dL_isTrimmed_124 ?_
      refine aw_lshr hK dL_isTrimmed_127 ?_
      refine aw_lconst hK (1) rfl dL_isTrimmed_128 ?_
      refine aw_land hK dL_isTrimmed_129 ?_
      refine aw_lconst hK (1) rfl dL_isTrimmed_130 ?_
      refine aw_lcmp hK dL_isTrimmed_131 ?_
      refine aw_if_ne hK 148 rfl dL_isTrimmed_132 (fun hc => ?_) (fun hc => ?_)
      · have hF := if_f hF hc
        refine aw_lconst hK (0) rfl dL_isTrimmed_148 ?_
        refine aw_sub [0, 1, 2, 3, 4, 5, 6, 8, 9] (lv' := [(0, q_r 0), (1, q_i x1), (2, q_i x2), (3, q_i x3), (6, q_v (.long x6)), (8, q_i x8), (9, q_i x9), (12, q_i x12), (13, q_i x13)]) rfl ?_
        exact bk_L_isTrimmed_149 hK hR hrec_100 hrec_109 hF
      · have hF := if_t hF hc
        refine aw_lconst hK (1) rfl dL_isTrimmed_135 ?_
        refine aw_aload_n hK 0 rfl dL_isTrimmed_136 ?_
        refine aw_iload_n hK 1 rfl dL_isTrimmed_137 ?_
        refine aw_iload hK 9 rfl dL_isTrimmed_138 ?_
        refine aw_iconst hK (0) rfl dL_isTrimmed_140 ?_
        obtain ⟨r20, m19, h18, hF⟩ := calL_some hF
        refine aw_cv hK 7 (as := [q_i x1, q_i x13, q_i (0 : Int32)]) (trN_X7_arc h18) gL_isTrimmed_X7_arc rfl rfl rfl (by decide) (na := 3) (by decide +kernel) rfl ⟨by decide, by decide⟩ (Nat.zero_le _) (Nat.le_of_ble_eq_true rfl) dL_isTrimmed_141 ?_
        refine aw_lshl hK dL_isTrimmed_144 ?_
        refine aw_goto hK 149 rfl dL_isTrimmed_145 ?_
        refine aw_sub [0, 1, 2, 3, 4, 5, 6, 8, 9] (lv' := [(0, q_r 0), (1, q_i x1), (2, q_i x2), (3, q_i x3), (6, q_v (.long x6)), (8, q_i x8), (9, q_i x9), (12, q_i x12), (13, q_i x13)]) rfl ?_
        exact bk_L_isTrimmed_149 hK hR hrec_100 hrec_109 hF
def S_L_isTrimmed_100 (N : Nat) (rec_100 : Mem → Int32 → Int32 → Int32 → Int64 → Int32 → Int32 → Int64 → Int32 → Option (Int32 × Mem)) (m : Mem) (x1 : Int32) (x2 : Int32) (x3 : Int32) (x6 : Int64) (x8 : Int32) (x9 : Int32) (x10 : Int64) (x12 : Int32) : Option (Int32 × Mem) :=
  if x2 ≤ x12 then (
    L_L_isTrimmed_167 N N m x1 x2 x3 x6 x8 x9 x10 (0 : Int32)
  ) else (
    L_L_isTrimmed_109 N rec_100 N m x1 x2 x3 x6 x8 x9 x10 x12 (0 : Int32)
  )
def L_L_isTrimmed_100 (N : Nat) : Nat → Mem → Int32 → Int32 → Int32 → Int64 → Int32 → Int32 → Int64 → Int32 → Option (Int32 × Mem)
  | 0 => fun _ _ _ _ _ _ _ _ _ => none
  | f + 1 => S_L_isTrimmed_100 N (L_L_isTrimmed_100 N f)
set_option maxRecDepth 100000 in
set_option maxHeartbeats 4000000 in
theorem lp_L_isTrimmed_100 {N : Nat} {K : KT} {m' : Mem} {r : Int32} (hK : KOK K cL_isTrimmed 17 RL wsL_isTrimmed 8 0 135) (hR : KRet K (some .boolean) (some r) m') : ∀ (f : Nat) {m : Mem} {x1 : Int32} {x2 : Int32} {x3 : Int32} {x6 : Int64} {x8 : Int32} {x9 : Int32} {x10 : Int64} {x12 : Int32}, L_L_isTrimmed_100 N f m x1 x2 x3 x6 x8 x9 x10 x12 = some (r, m') → AW K 0 100 [(0, q_r 0), (1, q_i x1), (2, q_i x2), (3, q_i x3), (6, q_v (.long x6)), (8, q_i x8), (9, q_i x9), (10, q_v (.long x10)), (12, q_i x12)] [] m := by
  intro f
  induction f with
  | zero => intro m x1 x2 x3 x6 x8 x9 x10 x12 hF; cases hF
  | succ f hrec_100 =>
    intro m x1 x2 x3 x6 x8 x9 x10 x12 hF
    have hF : S_L_isTrimmed_100 N (L_L_isTrimmed_100 N f) m x1 x2 x3 x6 x8 x9 x10 x12 = some (r, m') := hF
    unfold S_L_isTrimmed_100 at hF
    refine aw_iload hK 8 rfl dL_isTrimmed_100 ?_
    refine aw_iload_n hK 2 rfl dL_isTrimmed_102 ?_
    refine aw_icmp_ge hK 164 rfl dL_isTrimmed_103 (fun hc => ?_) (fun hc => ?_)
    · have hF := if_t hF hc
      refine aw_iconst hK (0) rfl dL_isTrimmed_164 ?_
      refine aw_istore hK [(12, q_i (0 : Int32)), (0, q_r 0), (1, q_i x1), (2, q_i x2), (3, q_i x3), (6, q_v (.long x6)), (8, q_i x8), (9, q_i x9), (10, q_v (.long x10))] (by decide) rfl dL_isTrimmed_165 ?_
      refine aw_sub [1, 2, 3, 4, 5, 6, 7, 8, 0] (lv' := [(0, q_r 0), (1, q_i x1), (2, q_i x2), (3, q_i x3), (6, q_v (.long x6)), (8, q_i x8), (9, q_i x9), (10, q_v (.long x10)), (12, q_i (0 : Int32))]) rfl ?_
      exact lp_L_isTrimmed_167 hK hR _ hF
    · have hF := if_f hF hc
      refine aw_iconst hK (0) rfl dL_isTrimmed_106 ?_
      refine aw_istore hK [(13, q_i (0 : Int32)), (0, q_r 0), (1, q_i x1), (2, q_i x2), (3, q_i x3), (6, q_v (.long x6)), (8, q_i x8), (9, q_i x9), (10, q_v (.long x10)), (12, q_i x12)] (by decide) rfl dL_isTrimmed_107 ?_
      refine aw_sub [1, 2, 3, 4, 5, 6, 7, 8, 9, 0] (lv' := [(0, q_r 0), (1, q_i x1), (2, q_i x2), (3, q_i x3), (6, q_v (.long x6)), (8, q_i x8), (9, q_i x9), (10, q_v (.long x10)), (12, q_i x12), (13, q_i (0 : Int32))]) rfl ?_
      exact lp_L_isTrimmed_109 hK hR hrec_100 _ hF
def B_L_isTrimmed_91 (N : Nat) (m : Mem) (x1 : Int32) (x2 : Int32) (x3 : Int32) (x4 : Int64) (x6 : Int64) (x8 : Int32) (s0 : Int32) : Option (Int32 × Mem) :=
  L_L_isTrimmed_100 N N m x1 x2 x3 x6 x8 s0 x4 (0 : Int32)
set_option maxRecDepth 100000 in
set_option maxHeartbeats 4000000 in
theorem bk_L_isTrimmed_91 {N : Nat} {K : KT} {m' : Mem} {r : Int32} (hK : KOK K cL_isTrimmed 17 RL wsL_isTrimmed 8 0 135) (hR : KRet K (some .boolean) (some r) m') {m : Mem} {x1 : Int32} {x2 : Int32} {x3 : Int32} {x4 : Int64} {x6 : Int64} {x8 : Int32} {s0 : Int32} (hF : B_L_isTrimmed_91 N m x1 x2 x3 x4 x6 x8 s0 = some (r, m')) : AW K 0 91 [(0, q_r 0), (1, q_i x1), (2, q_i x2), (3, q_i x3), (4, q_v (.long x4)), (6, q_v (.long x6)), (8, q_i x8)] [q_i s0] m := by
  unfold B_L_isTrimmed_91 at hF
  refine aw_istore hK [(9, q_i s0), (0, q_r 0), (1, q_i x1), (2, q_i x2), (3, q_i x3), (4, q_v (.long x4)), (6, q_v (.long x6)), (8, q_i x8)] (by decide) rfl dL_isTrimmed_91 ?_
  refine aw_lload hK 5 rfl dL_isTrimmed_93 ?_
  refine aw_lstore hK [(10, q_v (.long x4)), (9, q_i s0), (0, q_r 0), (1, q_i x1), (2, q_i x2), (3, q_i x3), (4, q_v (.long x4)), (6, q_v (.long x6)), (8, q_i x8)] (by decide) rfl dL_isTrimmed_95 ?_
  refine aw_iconst hK (0) rfl dL_isTrimmed_97 ?_
  refine aw_istore hK [(12, q_i (0 : Int32)), (10, q_v (.long x4)), (9, q_i s0), (0, q_r 0), (1, q_i x1), (2, q_i x2), (3, q_i x3), (4, q_v (.long x4)), (6, q_v (.long x6)), (8, q_i x8)] (by decide) rfl dL_isTrimmed_98 ?_
  refine aw_sub [3, 4, 5, 6, 8, 9, 2, 1, 0] (lv' := [(0, q_r 0), (1, q_i x1), (2, q_i x2), (3, q_i x3), (6, q_v (.long x6)), (8, q_i x8), (9, q_i s0), (10, q_v (.long x4)), (12, q_i (0 : Int32))]) rfl ?_
  exact lp_L_isTrimmed_100 hK hR _ hF
def B_L_isTrimmed_90 (N : Nat) (m : Mem) (x1 : Int32) (x2 : Int32) (x3 : Int32) (x4 : Int64) (x6 : Int64) (x8 : Int32) : Option (Int32 × Mem) :=
  B_L_isTrimmed_91 N m x1 x2 x3 x4 x6 x8 (0 : Int32)
set_option maxRecDepth 100000 in
set_option maxHeartbeats 4000000 in
theorem bk_L_isTrimmed_90 {N : Nat} {K : KT} {m' : Mem} {r : Int32} (hK : KOK K cL_isTrimmed 17 RL wsL_isTrimmed 8 0 135) (hR : KRet K (some .boolean) (some r) m') {m : Mem} {x1 : Int32} {x2 : Int32} {x3 : Int32} {x4 : Int64} {x6 : Int64} {x8 : Int32} (hF : B_L_isTrimmed_90 N m x1 x2 x3 x4 x6 x8 = some (r, m')) : AW K 0 90 [(0, q_r 0), (1, q_i x1), (2, q_i x2), (3, q_i x3), (4, q_v (.long x4)), (6, q_v (.long x6)), (8, q_i x8)] [] m := by
  unfold B_L_isTrimmed_90 at hF
  refine aw_iconst hK (0) rfl dL_isTrimmed_90 ?_
  refine aw_sub [0, 1, 2, 3, 4, 5, 6] (lv' := [(0, q_r 0), (1, q_i x1), (2, q_i x2), (3, q_i x3), (4, q_v (.long x4)), (6, q_v (.long x6)), (8, q_i x8)]) rfl ?_
  exact bk_L_isTrimmed_91 hK hR hF
def B_L_isTrimmed_52 (N : Nat) (rec_26 : Mem → Int32 → Int32 → Int32 → Int64 → Int32 → Option (Int32 × Mem)) (m : Mem) (x1 : Int32) (x2 : Int32) (x3 : Int32) (x6 : Int32) (s0 : Int64) (s1 : Int64) : Option (Int32 × Mem) :=
  bnd (s1 ||| s0) fun y12 =>
  bnd (x6 + (1 : Int32)) fun y13 =>
  rec_26 m x1 x2 x3 y12 y13
set_option maxRecDepth 100000 in
set_option maxHeartbeats 4000000 in
theorem bk_L_isTrimmed_52 {N : Nat} {K : KT} {m' : Mem} {rec_26 : Mem → Int32 → Int32 → Int32 → Int64 → Int32 → Option (Int32 × Mem)} {r : Int32} (hK : KOK K cL_isTrimmed 17 RL wsL_isTrimmed 8 0 135) (hR : KRet K (some .boolean) (some r) m') (hrec_26 : ∀ {m : Mem} {x1 : Int32} {x2 : Int32} {x3 : Int32} {x4 : Int64} {x6 : Int32}, rec_26 m x1 x2 x3 x4 x6 = some (r, m') → AW K 0 26 [(0, q_r 0), (1, q_i x1), (2, q_i x2), (3, q_i x3), (4, q_v (.long x4)), (6, q_i x6)] [] m) {m : Mem} {x1 : Int32} {x2 : Int32} {x3 : Int32} {x6 : Int32} {s0 : Int64} {s1 : Int64} (hF : B_L_isTrimmed_52 N rec_26 m x1 x2 x3 x6 s0 s1 = some (r, m')) : AW K 0 52 [(0, q_r 0), (1, q_i x1), (2, q_i x2), (3, q_i x3), (6, q_i x6)] [q_v (.long s0), q_v (.long s1)] m := by
  unfold B_L_isTrimmed_52 at hF
  refine aw_lor hK dL_isTrimmed_52 ?_
  obtain ⟨y12, hy12, hF⟩ := bnd_some hF
  refine aw_nl hy12 ?_
  refine aw_lstore hK [(4, q_v (.long y12)), (0, q_r 0), (1, q_i x1), (2, q_i x2), (3, q_i x3), (6, q_i x6)] (by decide) rfl dL_isTrimmed_53 ?_
  obtain ⟨y13, hy13, hF⟩ := bnd_some hF
  refine aw_iinc hK (cz := 1) 5 [(6, q_i y13), (4, q_v (.long y12)), (0, q_r 0), (1, q_i x1), (2, q_i x2), (3, q_i x3)] (by decide) rfl rfl hy13 rfl dL_isTrimmed_55 ?_
  refine aw_goto hK 26 rfl dL_isTrimmed_58 ?_
  refine aw_sub [2, 3, 4, 5, 1, 0] (lv' := [(0, q_r 0), (1, q_i x1), (2, q_i x2), (3, q_i x3), (4, q_v (.long y12)), (6, q_i y13)]) rfl ?_
  exact hrec_26 hF
def S_L_isTrimmed_26 (N : Nat) (rec_26 : Mem → Int32 → Int32 → Int32 → Int64 → Int32 → Option (Int32 × Mem)) (m : Mem) (x1 : Int32) (x2 : Int32) (x3 : Int32) (x4 : Int64) (x6 : Int32) : Option (Int32 × Mem) :=
  if x2 ≤ x6 then (
    if x2 ≤ (0 : Int32) then (
      B_L_isTrimmed_90 N m x1 x2 x3 x4 (-1 : Int64) (1 : Int32)
    ) else (
      if (33 : Int32) ≤ x2 then (
        B_L_isTrimmed_90 N m x1 x2 x3 x4 (-1 : Int64) (1 : Int32)
      ) else (
        if (161 : Int32) ≤ x3 then (
          B_L_isTrimmed_90 N m x1 x2 x3 x4 (-1 : Int64) (1 : Int32)
        ) else (
          B_L_isTrimmed_91 N m x1 x2 x3 x4 (-1 : Int64) (1 : Int32) (1 : Int32)
        )
      )
    )
  ) else (
    calL (F_X7_isEnd N m x1 x6) fun r11 m10 =>
    if r11 = (0 : Int32) then (
      B_L_isTrimmed_52 N rec_26 m10 x1 x2 x3 x6 (0 : Int64) x4
    ) else (
      B_L_isTrimmed_52 N rec_26 m10 x1 x2 x3 x6 (l_shl (1 : Int64) x6) x4
    )
  )
def L_L_isTrimmed_26 (N : Nat) : Nat → Mem → Int32 → Int32 → Int32 → Int64 → Int32 → Option (Int32 × Mem)
  | 0 => fun _ _ _ _ _ _ => none
  | f + 1 => S_L_isTrimmed_26 N (L_L_isTrimmed_26 N f)
set_option maxRecDepth 100000 in
set_option maxHeartbeats 4000000 in
theorem lp_L_isTrimmed_26 {N : Nat} {K : KT} {m' : Mem} {r : Int32} (hK : KOK K cL_isTrimmed 17 RL wsL_isTrimmed 8 0 135) (hR : KRet K (some .boolean) (some r) m') : ∀ (f : Nat) {m : Mem} {x1 : Int32} {x2 : Int32} {x3 : Int32} {x4 : Int64} {x6 : Int32}, L_L_isTrimmed_26 N f m x1 x2 x3 x4 x6 = some (r, m') → AW K 0 26 [(0, q_r 0), (1, q_i x1), (2, q_i x2), (3, q_i x3), (4, q_v (.long x4)), (6, q_i x6)] [] m := by
  intro f
  induction f with
  | zero => intro m x1 x2 x3 x4 x6 hF; cases hF
  | succ f hrec_26 =>
    intro m x1 x2 x3 x4 x6 hF
    have hF : S_L_isTrimmed_26 N (L_L_isTrimmed_26 N f) m x1 x2 x3 x4 x6 = some (r, m') := hF
    unfold S_L_isTrimmed_26 at hF
    refine aw_iload hK 5 rfl dL_isTrimmed_26 ?_
    refine aw_iload_n hK 2 rfl dL_isTrimmed_28 ?_
    refine aw_icmp_ge hK 61 rfl dL_isTrimmed_29 (fun hc => ?_) (fun hc => ?_)
    · have hF := if_t hF hc
      refine aw_ldc2 hK (-1) (List.mem_of_getElem? (i := 1) rfl) dL_isTrimmed_61 ?_
      refine aw_lstore hK [(6, q_v (.long (-1 : Int64))), (0, q_r 0), (1, q_i x1), (2, q_i x2), (3, q_i x3), (4, q_v (.long x4))] (by decide) rfl dL_isTrimmed_64 ?_
      refine aw_iconst hK (1) rfl dL_isTrimmed_66 ?_
      refine aw_istore hK [(8, q_i (1 : Int32)), (6, q_v (.long (-1 : Int64))), (0, q_r 0), (1, q_i x1), (2, q_i x2), (3, q_i x3), (4, q_v (.long x4))] (by decide) rfl dL_isTrimmed_67 ?_
      refine aw_iload_n hK 4 rfl dL_isTrimmed_69 ?_
      refine aw_if_le hK 90 rfl dL_isTrimmed_70 (fun hc => ?_) (fun hc => ?_)
      · have hF := if_t hF hc
        refine aw_sub [2, 3, 4, 5, 6, 1, 0] (lv' := [(0, q_r 0), (1, q_i x1), (2, q_i x2), (3, q_i x3), (4, q_v (.long x4)), (6, q_v (.long (-1 : Int64))), (8, q_i (1 : Int32))]) rfl ?_
        exact bk_L_isTrimmed_90 hK hR hF
      · have hF := if_f hF hc
        refine aw_iload_n hK 4 rfl dL_isTrimmed_73 ?_
        refine aw_bipush hK (33) rfl dL_isTrimmed_74 ?_
        refine aw_icmp_ge hK 90 rfl dL_isTrimmed_76 (fun hc => ?_) (fun hc => ?_)
        · have hF := if_t hF hc
          refine aw_sub [2, 3, 4, 5, 6, 1, 0] (lv' := [(0, q_r 0), (1, q_i x1), (2, q_i x2), (3, q_i x3), (4, q_v (.long x4)), (6, q_v (.long (-1 : Int64))), (8, q_i (1 : Int32))]) rfl ?_
          exact bk_L_isTrimmed_90 hK hR hF
        · have hF := if_f hF hc
          refine aw_iload_n hK 5 rfl dL_isTrimmed_79 ?_
          refine aw_sipush hK (161) rfl dL_isTrimmed_80 ?_
          refine aw_icmp_ge hK 90 rfl dL_isTrimmed_83 (fun hc => ?_) (fun hc => ?_)
          · have hF := if_t hF hc
            refine aw_sub [2, 3, 4, 5, 6, 1, 0] (lv' := [(0, q_r 0), (1, q_i x1), (2, q_i x2), (3, q_i x3), (4, q_v (.long x4)), (6, q_v (.long (-1 : Int64))), (8, q_i (1 : Int32))]) rfl ?_
            exact bk_L_isTrimmed_90 hK hR hF
          · have hF := if_f hF hc
            refine aw_iconst hK (1) rfl dL_isTrimmed_86 ?_
            refine aw_goto hK 91 rfl dL_isTrimmed_87 ?_
            refine aw_sub [2, 3, 4, 5, 6, 1, 0] (lv' := [(0, q_r 0), (1, q_i x1), (2, q_i x2), (3, q_i x3), (4, q_v (.long x4)), (6, q_v (.long (-1 : Int64))), (8, q_i (1 : Int32))]) rfl ?_
            exact bk_L_isTrimmed_91 hK hR hF
    · have hF := if_f hF hc
      refine aw_lload hK 4 rfl dL_isTrimmed_32 ?_
      refine aw_aload_n hK 0 rfl dL_isTrimmed_34 ?_
      refine aw_iload_n hK 1 rfl dL_isTrimmed_35 ?_
      refine aw_iload hK 5 rfl dL_isTrimmed_36 ?_
      obtain ⟨r11, m10, h9, hF⟩ := calL_some hF
      refine aw_cv hK 7 (as := [q_i x1, q_i x6]) (trN_X7_isEnd h9) gL_isTrimmed_X7_isEnd rfl rfl rfl (by decide) (na := 2) (by decide +kernel) rfl ⟨by decide, by decide⟩ (Nat.zero_le _) (Nat.le_of_ble_eq_true rfl) dL_isTrimmed_38 ?_
      refine aw_if_eq hK 51 rfl dL_isTrimmed_41 (fun hc => ?_) (fun hc => ?_)
      · have hF := if_t hF hc
        refine aw_lconst hK (0) rfl dL_isTrimmed_51 ?_
        refine aw_sub [0, 1, 2, 3, 5] (lv' := [(0, q_r 0), (1, q_i x1), (2, q_i x2), (3, q_i x3), (6, q_i x6)]) rfl ?_
        exact bk_L_isTrimmed_52 hK hR hrec_26 hF
      · have hF := if_f hF hc
        refine aw_lconst hK (1) rfl dL_isTrimmed_44 ?_
        refine aw_iload hK 5 rfl dL_isTrimmed_45 ?_
        refine aw_lshl hK dL_isTrimmed_47 ?_
        refine aw_goto hK 52 rfl dL_isTrimmed_48 ?_
        refine aw_sub [0, 1, 2, 3, 5] (lv' := [(0, q_r 0), (1, q_i x1), (2, q_i x2), (3, q_i x3), (6, q_i x6)]) rfl ?_
        exact bk_L_isTrimmed_52 hK hR hrec_26 hF
def F_L_isTrimmed (N : Nat) (m : Mem) (x1 : Int32) : Option (Int32 × Mem) :=
  calL (F_X7_size N m x1) fun r3 m2 =>
  bnd (r3 / (1000 : Int32)) fun y4 =>
  calL (F_X7_size N m2 x1) fun r7 m6 =>
  bnd (q_rem r7 (1000 : Int32)) fun y8 =>
  L_L_isTrimmed_26 N N m6 x1 y4 y8 (0 : Int64) (0 : Int32)
set_option maxRecDepth 100000 in
set_option maxHeartbeats 4000000 in
theorem tr_L_isTrimmed {N : Nat} {m m' : Mem} {r : Int32} {x1 : Int32} (hF : F_L_isTrimmed N m x1 = some (r, m')) : Tr yL_isTrimmed wsL_isTrimmed 8 135 [q_r 0, q_i x1] m (some r) m' := by
  refine tr_of (bytes := cL_isTrimmed) (maxL := 17) (ret := (some .boolean)) (by decide) rfl (Nat.le_of_ble_eq_true rfl) (fun K hK hR => ?_)
  have hK : KOK K cL_isTrimmed 17 RL wsL_isTrimmed 8 0 135 := hK
  show AW K 0 0 [(0, q_r 0), (1, q_i x1)] [] m
  unfold F_L_isTrimmed at hF
  refine aw_aload_n hK 0 rfl dL_isTrimmed_0 ?_
  refine aw_iload_n hK 1 rfl dL_isTrimmed_1 ?_
  obtain ⟨r3, m2, h1, hF⟩ := calL_some hF
  refine aw_cv hK 7 (as := [q_i x1]) (trN_X7_size h1) gL_isTrimmed_X7_size rfl rfl rfl (by decide) (na := 1) (by decide +kernel) rfl ⟨by decide, by decide⟩ (Nat.zero_le _) (Nat.le_of_ble_eq_true rfl) dL_isTrimmed_2 ?_
  refine aw_sipush hK (1000) rfl dL_isTrimmed_5 ?_
  refine aw_idiv hK (by decide) dL_isTrimmed_8 ?_
  obtain ⟨y4, hy4, hF⟩ := bnd_some hF
  refine aw_nm hy4 ?_
  refine aw_istore_n hK [(2, q_i y4), (0, q_r 0), (1, q_i x1)] (by decide) rfl dL_isTrimmed_9 ?_
  refine aw_aload_n hK 1 rfl dL_isTrimmed_10 ?_
  refine aw_iload_n hK 2 rfl dL_isTrimmed_11 ?_
  obtain ⟨r7, m6, h5, hF⟩ := calL_some hF
  refine aw_cv hK 7 (as := [q_i x1]) (trN_X7_size h5) gL_isTrimmed_X7_size rfl rfl rfl (by decide) (na := 1) (by decide +kernel) rfl ⟨by decide, by decide⟩ (Nat.zero_le _) (Nat.le_of_ble_eq_true rfl) dL_isTrimmed_12 ?_
  refine aw_sipush hK (1000) rfl dL_isTrimmed_15 ?_
  refine aw_irem hK (by decide) dL_isTrimmed_18 ?_
  obtain ⟨y8, hy8, hF⟩ := bnd_some hF
  refine aw_nm hy8 ?_
  refine aw_istore_n hK [(3, q_i y8), (2, q_i y4), (0, q_r 0), (1, q_i x1)] (by decide) rfl dL_isTrimmed_19 ?_
  refine aw_lconst hK (0) rfl dL_isTrimmed_20 ?_
  refine aw_lstore hK [(4, q_v (.long (0 : Int64))), (3, q_i y8), (2, q_i y4), (0, q_r 0), (1, q_i x1)] (by decide) rfl dL_isTrimmed_21 ?_
  refine aw_iconst hK (0) rfl dL_isTrimmed_23 ?_
  refine aw_istore hK [(6, q_i (0 : Int32)), (4, q_v (.long (0 : Int64))), (3, q_i y8), (2, q_i y4), (0, q_r 0), (1, q_i x1)] (by decide) rfl dL_isTrimmed_24 ?_
  refine aw_sub [4, 5, 3, 2, 1, 0] (lv' := [(0, q_r 0), (1, q_i x1), (2, q_i y4), (3, q_i y8), (4, q_v (.long (0 : Int64))), (6, q_i (0 : Int32))]) rfl ?_
  exact lp_L_isTrimmed_26 hK hR _ hF