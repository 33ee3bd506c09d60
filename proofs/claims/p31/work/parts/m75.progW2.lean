def B_L_areAnswers_365 (N : Nat) (m : Mem) (s0 : Int32) : Option (Int32 × Mem) :=
  gd (isb s0) <|
  some (s0, m)
set_option maxRecDepth 100000 in
set_option maxHeartbeats 4000000 in
theorem bk_L_areAnswers_365 {N : Nat} {K : KT} {m' : Mem} {r : Int32} (hK : KOK K cL_areAnswers 10 RL wsL_areAnswers 8 0 143) (hR : KRet K (some .boolean) (some r) m') {m : Mem} {s0 : Int32} (hF : B_L_areAnswers_365 N m s0 = some (r, m')) : AW K 0 365 [] [q_i s0] m := by
  unfold B_L_areAnswers_365 at hF
  obtain ⟨g37, hF⟩ := gd_some hF
  obtain ⟨rfl, rfl⟩ := so_inj hF
  exact aw_iret hK hR (isb_narrow g37) dL_areAnswers_365
def B_L_areAnswers_364 (N : Nat) (m : Mem) : Option (Int32 × Mem) :=
  B_L_areAnswers_365 N m (0 : Int32)
set_option maxRecDepth 100000 in
set_option maxHeartbeats 4000000 in
theorem bk_L_areAnswers_364 {N : Nat} {K : KT} {m' : Mem} {r : Int32} (hK : KOK K cL_areAnswers 10 RL wsL_areAnswers 8 0 143) (hR : KRet K (some .boolean) (some r) m') {m : Mem} (hF : B_L_areAnswers_364 N m = some (r, m')) : AW K 0 364 [] [] m := by
  unfold B_L_areAnswers_364 at hF
  refine aw_iconst hK (0) rfl dL_areAnswers_364 ?_
  refine aw_sub [] (lv' := []) rfl ?_
  exact bk_L_areAnswers_365 hK hR hF
def B_L_areAnswers_350 (N : Nat) (m : Mem) (x4 : Int32) (x5 : Int32) : Option (Int32 × Mem) :=
  if x4 = (0 : Int32) then (
    B_L_areAnswers_364 N m
  ) else (
    if x5 = (0 : Int32) then (
      B_L_areAnswers_364 N m
    ) else (
      B_L_areAnswers_365 N m (1 : Int32)
    )
  )
set_option maxRecDepth 100000 in
set_option maxHeartbeats 4000000 in
theorem bk_L_areAnswers_350 {N : Nat} {K : KT} {m' : Mem} {r : Int32} (hK : KOK K cL_areAnswers 10 RL wsL_areAnswers 8 0 143) (hR : KRet K (some .boolean) (some r) m') {m : Mem} {x4 : Int32} {x5 : Int32} (hF : B_L_areAnswers_350 N m x4 x5 = some (r, m')) : AW K 0 350 [(4, q_i x4), (5, q_i x5)] [] m := by
  unfold B_L_areAnswers_350 at hF
  refine aw_iload hK 0 rfl dL_areAnswers_350 ?_
  refine aw_if_eq hK 364 rfl dL_areAnswers_352 (fun hc => ?_) (fun hc => ?_)
  · have hF := if_t hF hc
    refine aw_sub [] (lv' := []) rfl ?_
    exact bk_L_areAnswers_364 hK hR hF
  · have hF := if_f hF hc
    refine aw_iload hK 1 rfl dL_areAnswers_355 ?_
    refine aw_if_eq hK 364 rfl dL_areAnswers_357 (fun hc => ?_) (fun hc => ?_)
    · have hF := if_t hF hc
      refine aw_sub [] (lv' := []) rfl ?_
      exact bk_L_areAnswers_364 hK hR hF
    · have hF := if_f hF hc
      refine aw_iconst hK (1) rfl dL_areAnswers_360 ?_
      refine aw_goto hK 365 rfl dL_areAnswers_361 ?_
      refine aw_sub [] (lv' := []) rfl ?_
      exact bk_L_areAnswers_365 hK hR hF
def B_L_areAnswers_342 (N : Nat) (rec_89 : Mem → Int32 → Int32 → Int32 → Int32 → Int32 → Int32 → Option (Int32 × Mem)) (m : Mem) (x1 : Int32) (x2 : Int32) (x3 : Int32) (x5 : Int32) (x6 : Int32) (s0 : Int32) : Option (Int32 × Mem) :=
  bnd (x6 + (1 : Int32)) fun y36 =>
  rec_89 m x1 x2 x3 s0 x5 y36
set_option maxRecDepth 100000 in
set_option maxHeartbeats 4000000 in
theorem bk_L_areAnswers_342 {N : Nat} {K : KT} {m' : Mem} {rec_89 : Mem → Int32 → Int32 → Int32 → Int32 → Int32 → Int32 → Option (Int32 × Mem)} {r : Int32} (hK : KOK K cL_areAnswers 10 RL wsL_areAnswers 8 0 143) (hR : KRet K (some .boolean) (some r) m') (hrec_89 : ∀ {m : Mem} {x1 : Int32} {x2 : Int32} {x3 : Int32} {x4 : Int32} {x5 : Int32} {x6 : Int32}, rec_89 m x1 x2 x3 x4 x5 x6 = some (r, m') → AW K 0 89 [(0, q_r 0), (1, q_i x1), (2, q_i x2), (3, q_i x3), (4, q_i x4), (5, q_i x5), (6, q_i x6)] [] m) {m : Mem} {x1 : Int32} {x2 : Int32} {x3 : Int32} {x5 : Int32} {x6 : Int32} {s0 : Int32} (hF : B_L_areAnswers_342 N rec_89 m x1 x2 x3 x5 x6 s0 = some (r, m')) : AW K 0 342 [(0, q_r 0), (1, q_i x1), (2, q_i x2), (3, q_i x3), (5, q_i x5), (6, q_i x6)] [q_i s0] m := by
  unfold B_L_areAnswers_342 at hF
  refine aw_istore hK [(4, q_i s0), (0, q_r 0), (1, q_i x1), (2, q_i x2), (3, q_i x3), (5, q_i x5), (6, q_i x6)] (by decide) rfl dL_areAnswers_342 ?_
  obtain ⟨y36, hy36, hF⟩ := bnd_some hF
  refine aw_iinc hK (cz := 1) 6 [(6, q_i y36), (4, q_i s0), (0, q_r 0), (1, q_i x1), (2, q_i x2), (3, q_i x3), (5, q_i x5)] (by decide) rfl rfl hy36 rfl dL_areAnswers_344 ?_
  refine aw_goto hK 89 rfl dL_areAnswers_347 ?_
  refine aw_sub [2, 3, 4, 5, 1, 6, 0] (lv' := [(0, q_r 0), (1, q_i x1), (2, q_i x2), (3, q_i x3), (4, q_i s0), (5, q_i x5), (6, q_i y36)]) rfl ?_
  exact hrec_89 hF
def B_L_areAnswers_341 (N : Nat) (rec_89 : Mem → Int32 → Int32 → Int32 → Int32 → Int32 → Int32 → Option (Int32 × Mem)) (m : Mem) (x1 : Int32) (x2 : Int32) (x3 : Int32) (x5 : Int32) (x6 : Int32) : Option (Int32 × Mem) :=
  B_L_areAnswers_342 N rec_89 m x1 x2 x3 x5 x6 (0 : Int32)
set_option maxRecDepth 100000 in
set_option maxHeartbeats 4000000 in
theorem bk_L_areAnswers_341 {N : Nat} {K : KT} {m' : Mem} {rec_89 : Mem → Int32 → Int32 → Int32 → Int32 → Int32 → Int32 → Option (Int32 × Mem)} {r : Int32} (hK : KOK K cL_areAnswers 10 RL wsL_areAnswers 8 0 143) (hR : KRet K (some .boolean) (some r) m') (hrec_89 : ∀ {m : Mem} {x1 : Int32} {x2 : Int32} {x3 : Int32} {x4 : Int32} {x5 : Int32} {x6 : Int32}, rec_89 m x1 x2 x3 x4 x5 x6 = some (r, m') → AW K 0 89 [(0, q_r 0), (1, q_i x1), (2, q_i x2), (3, q_i x3), (4, q_i x4), (5, q_i x5), (6, q_i x6)] [] m) {m : Mem} {x1 : Int32} {x2 : Int32} {x3 : Int32} {x5 : Int32} {x6 : Int32} (hF : B_L_areAnswers_341 N rec_89 m x1 x2 x3 x5 x6 = some (r, m')) : AW K 0 341 [(0, q_r 0), (1, q_i x1), (2, q_i x2), (3, q_i x3), (5, q_i x5), (6, q_i x6)] [] m := by
  unfold B_L_areAnswers_341 at hF
  refine aw_iconst hK (0) rfl dL_areAnswers_341 ?_
  refine aw_sub [0, 1, 2, 3, 4, 5] (lv' := [(0, q_r 0), (1, q_i x1), (2, q_i x2), (3, q_i x3), (5, q_i x5), (6, q_i x6)]) rfl ?_
  exact bk_L_areAnswers_342 hK hR hrec_89 hF
def B_L_areAnswers_337 (N : Nat) (rec_89 : Mem → Int32 → Int32 → Int32 → Int32 → Int32 → Int32 → Option (Int32 × Mem)) (m : Mem) (x1 : Int32) (x2 : Int32) (x3 : Int32) (x5 : Int32) (x6 : Int32) : Option (Int32 × Mem) :=
  B_L_areAnswers_342 N rec_89 m x1 x2 x3 x5 x6 (1 : Int32)
set_option maxRecDepth 100000 in
set_option maxHeartbeats 4000000 in
theorem bk_L_areAnswers_337 {N : Nat} {K : KT} {m' : Mem} {rec_89 : Mem → Int32 → Int32 → Int32 → Int32 → Int32 → Int32 → Option (Int32 × Mem)} {r : Int32} (hK : KOK K cL_areAnswers 10 RL wsL_areAnswers 8 0 143) (hR : KRet K (some .boolean) (some r) m') (hrec_89 : ∀ {m : Mem} {x1 : Int32} {x2 : Int32} {x3 : Int32} {x4 : Int32} {x5 : Int32} {x6 : Int32}, rec_89 m x1 x2 x3 x4 x5 x6 = some (r, m') → AW K 0 89 [(0, q_r 0), (1, q_i x1), (2, q_i x2), (3, q_i x3), (4, q_i x4), (5, q_i x5), (6, q_i x6)] [] m) {m : Mem} {x1 : Int32} {x2 : Int32} {x3 : Int32} {x5 : Int32} {x6 : Int32} (hF : B_L_areAnswers_337 N rec_89 m x1 x2 x3 x5 x6 = some (r, m')) : AW K 0 337 [(0, q_r 0), (1, q_i x1), (2, q_i x2), (3, q_i x3), (5, q_i x5), (6, q_i x6)] [] m := by
  unfold B_L_areAnswers_337 at hF
  refine aw_iconst hK (1) rfl dL_areAnswers_337 ?_
  refine aw_goto hK 342 rfl dL_areAnswers_338 ?_
  refine aw_sub [0, 1, 2, 3, 4, 5] (lv' := [(0, q_r 0), (1, q_i x1), (2, q_i x2), (3, q_i x3), (5, q_i x5), (6, q_i x6)]) rfl ?_
  exact bk_L_areAnswers_342 hK hR hrec_89 hF
def B_L_areAnswers_333 (N : Nat) (rec_89 : Mem → Int32 → Int32 → Int32 → Int32 → Int32 → Int32 → Option (Int32 × Mem)) (m : Mem) (x1 : Int32) (x2 : Int32) (x3 : Int32) (x5 : Int32) (x6 : Int32) (s0 : Int32) (s1 : Int32) (s2 : Int32) : Option (Int32 × Mem) :=
  if s2 ≤ (s1 + s0) then (
    B_L_areAnswers_341 N rec_89 m x1 x2 x3 x5 x6
  ) else (
    B_L_areAnswers_337 N rec_89 m x1 x2 x3 x5 x6
  )
set_option maxRecDepth 100000 in
set_option maxHeartbeats 4000000 in
theorem bk_L_areAnswers_333 {N : Nat} {K : KT} {m' : Mem} {rec_89 : Mem → Int32 → Int32 → Int32 → Int32 → Int32 → Int32 → Option (Int32 × Mem)} {r : Int32} (hK : KOK K cL_areAnswers 10 RL wsL_areAnswers 8 0 143) (hR : KRet K (some .boolean) (some r) m') (hrec_89 : ∀ {m : Mem} {x1 : Int32} {x2 : Int32} {x3 : Int32} {x4 : Int32} {x5 : Int32} {x6 : Int32}, rec_89 m x1 x2 x3 x4 x5 x6 = some (r, m') → AW K 0 89 [(0, q_r 0), (1, q_i x1), (2, q_i x2), (3, q_i x3), (4, q_i x4), (5, q_i x5), (6, q_i x6)] [] m) {m : Mem} {x1 : Int32} {x2 : Int32} {x3 : Int32} {x5 : Int32} {x6 : Int32} {s0 : Int32} {s1 : Int32} {s2 : Int32} (hF : B_L_areAnswers_333 N rec_89 m x1 x2 x3 x5 x6 s0 s1 s2 = some (r, m')) : AW K 0 333 [(0, q_r 0), (1, q_i x1), (2, q_i x2), (3, q_i x3), (5, q_i x5), (6, q_i x6)] [q_i s0, q_i s1, q_i s2] m := by
  unfold B_L_areAnswers_333 at hF
  refine aw_iadd hK dL_areAnswers_333 ?_
  refine aw_icmp_le hK 341 rfl dL_areAnswers_334 (fun hc => ?_) (fun hc => ?_)
  · have hF := if_t hF hc
    refine aw_sub [0, 1, 2, 3, 4, 5] (lv' := [(0, q_r 0), (1, q_i x1), (2, q_i x2), (3, q_i x3), (5, q_i x5), (6, q_i x6)]) rfl ?_
    exact bk_L_areAnswers_341 hK hR hrec_89 hF
  · have hF := if_f hF hc
    refine aw_sub [0, 1, 2, 3, 4, 5] (lv' := [(0, q_r 0), (1, q_i x1), (2, q_i x2), (3, q_i x3), (5, q_i x5), (6, q_i x6)]) rfl ?_
    exact bk_L_areAnswers_337 hK hR hrec_89 hF
def B_L_areAnswers_295 (N : Nat) (rec_89 : Mem → Int32 → Int32 → Int32 → Int32 → Int32 → Int32 → Option (Int32 × Mem)) (m : Mem) (x1 : Int32) (x2 : Int32) (x3 : Int32) (x5 : Int32) (x6 : Int32) (x8 : Int32) (s0 : Int32) (s1 : Int32) : Option (Int32 × Mem) :=
  calL (F_X7_answer N m x1 x2 (x6 - (1 : Int32)) x8) fun r32 m31 =>
  calL (F_X7_answer N m31 x1 x2 (x6 - (1 : Int32)) x8) fun r35 m34 =>
  if (8 : Int32) ≤ r35 then (
    B_L_areAnswers_333 N rec_89 m34 x1 x2 x3 x5 x6 (0 : Int32) (q_rem r32 (8 : Int32)) (s1 + s0)
  ) else (
    B_L_areAnswers_333 N rec_89 m34 x1 x2 x3 x5 x6 (1 : Int32) (q_rem r32 (8 : Int32)) (s1 + s0)
  )
set_option maxRecDepth 100000 in
set_option maxHeartbeats 4000000 in
theorem bk_L_areAnswers_295 {N : Nat} {K : KT} {m' : Mem} {rec_89 : Mem → Int32 → Int32 → Int32 → Int32 → Int32 → Int32 → Option (Int32 × Mem)} {r : Int32} (hK : KOK K cL_areAnswers 10 RL wsL_areAnswers 8 0 143) (hR : KRet K (some .boolean) (some r) m') (hrec_89 : ∀ {m : Mem} {x1 : Int32} {x2 : Int32} {x3 : Int32} {x4 : Int32} {x5 : Int32} {x6 : Int32}, rec_89 m x1 x2 x3 x4 x5 x6 = some (r, m') → AW K 0 89 [(0, q_r 0), (1, q_i x1), (2, q_i x2), (3, q_i x3), (4, q_i x4), (5, q_i x5), (6, q_i x6)] [] m) {m : Mem} {x1 : Int32} {x2 : Int32} {x3 : Int32} {x5 : Int32} {x6 : Int32} {x8 : Int32} {s0 : Int32} {s1 : Int32} (hF : B_L_areAnswers_295 N rec_89 m x1 x2 x3 x5 x6 x8 s0 s1 = some (r, m')) : AW K 0 295 [(0, q_r 0), (1, q_i x1), (2, q_i x2), (3, q_i x3), (5, q_i x5), (6, q_i x6), (8, q_i x8)] [q_i s0, q_i s1] m := by
  unfold B_L_areAnswers_295 at hF
  refine aw_iadd hK dL_areAnswers_295 ?_
  refine aw_aload_n hK 0 rfl dL_areAnswers_296 ?_
  refine aw_iload_n hK 1 rfl dL_areAnswers_297 ?_
  refine aw_iload_n hK 2 rfl dL_areAnswers_298 ?_
  refine aw_iload hK 5 rfl dL_areAnswers_299 ?_
  refine aw_iconst hK (1) rfl dL_areAnswers_301 ?_
  refine aw_isub hK dL_areAnswers_302 ?_
  refine aw_iload hK 6 rfl dL_areAnswers_303 ?_
  obtain ⟨r32, m31, h30, hF⟩ := calL_some hF
  refine aw_cv hK 7 (as := [q_i x1, q_i x2, q_i (x6 - (1 : Int32)), q_i x8]) (trN_X7_answer h30) gL_areAnswers_X7_answer rfl rfl rfl (by decide) (na := 4) (by decide +kernel) rfl ⟨by decide, by decide⟩ (Nat.zero_le _) (Nat.le_of_ble_eq_true rfl) dL_areAnswers_305 ?_
  refine aw_bipush hK (8) rfl dL_areAnswers_308 ?_
  refine aw_irem hK (by decide) dL_areAnswers_310 ?_
  refine aw_aload_n hK 0 rfl dL_areAnswers_311 ?_
  refine aw_iload_n hK 1 rfl dL_areAnswers_312 ?_
  refine aw_iload_n hK 2 rfl dL_areAnswers_313 ?_
  refine aw_iload hK 5 rfl dL_areAnswers_314 ?_
  refine aw_iconst hK (1) rfl dL_areAnswers_316 ?_
  refine aw_isub hK dL_areAnswers_317 ?_
  refine aw_iload hK 6 rfl dL_areAnswers_318 ?_
  obtain ⟨r35, m34, h33, hF⟩ := calL_some hF
  refine aw_cv hK 7 (as := [q_i x1, q_i x2, q_i (x6 - (1 : Int32)), q_i x8]) (trN_X7_answer h33) gL_areAnswers_X7_answer rfl rfl rfl (by decide) (na := 4) (by decide +kernel) rfl ⟨by decide, by decide⟩ (Nat.zero_le _) (Nat.le_of_ble_eq_true rfl) dL_areAnswers_320 ?_
  refine aw_bipush hK (8) rfl dL_areAnswers_323 ?_
  refine aw_icmp_ge hK 332 rfl dL_areAnswers_325 (fun hc => ?_) (fun hc => ?_)
  · have hF := if_t hF hc
    refine aw_iconst hK (0) rfl dL_areAnswers_332 ?_
    refine aw_sub [0, 1, 2, 3, 4, 5] (lv' := [(0, q_r 0), (1, q_i x1), (2, q_i x2), (3, q_i x3), (5, q_i x5), (6, q_i x6)]) rfl ?_
    exact bk_L_areAnswers_333 hK hR hrec_89 hF
  · have hF := if_f hF hc
    refine aw_iconst hK (1) rfl dL_areAnswers_328 ?_
    refine aw_goto hK 333 rfl dL_areAnswers_329 ?_
    refine aw_sub [0, 1, 2, 3, 4, 5] (lv' := [(0, q_r 0), (1, q_i x1), (2, q_i x2), (3, q_i x3), (5, q_i x5), (6, q_i x6)]) rfl ?_
    exact bk_L_areAnswers_333 hK hR hrec_89 hF
def B_L_areAnswers_244 (N : Nat) (rec_89 : Mem → Int32 → Int32 → Int32 → Int32 → Int32 → Int32 → Option (Int32 × Mem)) (m : Mem) (x1 : Int32) (x2 : Int32) (x3 : Int32) (x4 : Int32) (x5 : Int32) (x6 : Int32) (x8 : Int32) : Option (Int32 × Mem) :=
  if x4 = (0 : Int32) then (
    B_L_areAnswers_341 N rec_89 m x1 x2 x3 x5 x6
  ) else (
    if x6 = (0 : Int32) then (
      B_L_areAnswers_337 N rec_89 m x1 x2 x3 x5 x6
    ) else (
      if (300 : Int32) ≤ x8 then (
        B_L_areAnswers_341 N rec_89 m x1 x2 x3 x5 x6
      ) else (
        calL (F_X7_answer N m x1 x2 x6 x8) fun r26 m25 =>
        calL (F_X7_answer N m25 x1 x2 x6 x8) fun r29 m28 =>
        if (8 : Int32) ≤ r29 then (
          B_L_areAnswers_295 N rec_89 m28 x1 x2 x3 x5 x6 x8 (0 : Int32) (q_rem r26 (8 : Int32))
        ) else (
          B_L_areAnswers_295 N rec_89 m28 x1 x2 x3 x5 x6 x8 (1 : Int32) (q_rem r26 (8 : Int32))
        )
      )
    )
  )
set_option maxRecDepth 100000 in
set_option maxHeartbeats 4000000 in
theorem bk_L_areAnswers_244 {N : Nat} {K : KT} {m' : Mem} {rec_89 : Mem → Int32 → Int32 → Int32 → Int32 → Int32 → Int32 → Option (Int32 × Mem)} {r : Int32} (hK : KOK K cL_areAnswers 10 RL wsL_areAnswers 8 0 143) (hR : KRet K (some .boolean) (some r) m') (hrec_89 : ∀ {m : Mem} {x1 : Int32} {x2 : Int32} {x3 : Int32} {x4 : Int32} {x5 : Int32} {x6 : Int32}, rec_89 m x1 x2 x3 x4 x5 x6 = some (r, m') → AW K 0 89 [(0, q_r 0), (1, q_i x1), (2, q_i x2), (3, q_i x3), (4, q_i x4), (5, q_i x5), (6, q_i x6)] [] m) {m : Mem} {x1 : Int32} {x2 : Int32} {x3 : Int32} {x4 : Int32} {x5 : Int32} {x6 : Int32} {x8 : Int32} (hF : B_L_areAnswers_244 N rec_89 m x1 x2 x3 x4 x5 x6 x8 = some (r, m')) : AW K 0 244 [(0, q_r 0), (1, q_i x1), (2, q_i x2), (3, q_i x3), (4, q_i x4), (5, q_i x5), (6, q_i x6), (8, q_i x8)] [] m := by
  unfold B_L_areAnswers_244 at hF
  refine aw_iload hK 4 rfl dL_areAnswers_244 ?_
  refine aw_if_eq hK 341 rfl dL_areAnswers_246 (fun hc => ?_) (fun hc => ?_)
  · have hF := if_t hF hc
    refine aw_sub [0, 1, 2, 3, 5, 6] (lv' := [(0, q_r 0), (1, q_i x1), (2, q_i x2), (3, q_i x3), (5, q_i x5), (6, q_i x6)]) rfl ?_
    exact bk_L_areAnswers_341 hK hR hrec_89 hF
  · have hF := if_f hF hc
    refine aw_iload hK 6 rfl dL_areAnswers_249 ?_
    refine aw_if_eq hK 337 rfl dL_areAnswers_251 (fun hc => ?_) (fun hc => ?_)
    · have hF := if_t hF hc
      refine aw_sub [0, 1, 2, 3, 5, 6] (lv' := [(0, q_r 0), (1, q_i x1), (2, q_i x2), (3, q_i x3), (5, q_i x5), (6, q_i x6)]) rfl ?_
      exact bk_L_areAnswers_337 hK hR hrec_89 hF
    · have hF := if_f hF hc
      refine aw_iload hK 7 rfl dL_areAnswers_254 ?_
      refine aw_sipush hK (300) rfl dL_areAnswers_256 ?_
      refine aw_icmp_ge hK 341 rfl dL_areAnswers_259 (fun hc => ?_) (fun hc => ?_)
      · have hF := if_t hF hc
        refine aw_sub [0, 1, 2, 3, 5, 6] (lv' := [(0, q_r 0), (1, q_i x1), (2, q_i x2), (3, q_i x3), (5, q_i x5), (6, q_i x6)]) rfl ?_
        exact bk_L_areAnswers_341 hK hR hrec_89 hF
      · have hF := if_f hF hc
        refine aw_aload_n hK 0 rfl dL_areAnswers_262 ?_
        refine aw_iload_n hK 1 rfl dL_areAnswers_263 ?_
        refine aw_iload_n hK 2 rfl dL_areAnswers_264 ?_
        refine aw_iload hK 6 rfl dL_areAnswers_265 ?_
        refine aw_iload hK 7 rfl dL_areAnswers_267 ?_
        obtain ⟨r26, m25, h24, hF⟩ := calL_some hF
        refine aw_cv hK 7 (as := [q_i x1, q_i x2, q_i x6, q_i x8]) (trN_X7_answer h24) gL_areAnswers_X7_answer rfl rfl rfl (by decide) (na := 4) (by decide +kernel) rfl ⟨by decide, by decide⟩ (Nat.zero_le _) (Nat.le_of_ble_eq_true rfl) dL_areAnswers_269 ?_
        refine aw_bipush hK (8) rfl dL_areAnswers_272 ?_
        refine aw_irem hK (by decide) dL_areAnswers_274 ?_
        refine aw_aload_n hK 0 rfl dL_areAnswers_275 ?_
        refine aw_iload_n hK 1 rfl dL_areAnswers_276 ?_
        refine aw_iload_n hK 2 rfl dL_areAnswers_277 ?_
        refine aw_iload hK 6 rfl dL_areAnswers_278 ?_
        refine aw_iload hK 7 rfl dL_areAnswers_280 ?_
        obtain ⟨r29, m28, h27, hF⟩ := calL_some hF
        refine aw_cv hK 7 (as := [q_i x1, q_i x2, q_i x6, q_i x8]) (trN_X7_answer h27) gL_areAnswers_X7_answer rfl rfl rfl (by decide) (na := 4) (by decide +kernel) rfl ⟨by decide, by decide⟩ (Nat.zero_le _) (Nat.le_of_ble_eq_true rfl) dL_areAnswers_282 ?_
        refine aw_bipush hK (8) rfl dL_areAnswers_285 ?_
        refine aw_icmp_ge hK 294 rfl dL_areAnswers_287 (fun hc => ?_) (fun hc => ?_)
        · have hF := if_t hF hc
          refine aw_iconst hK (0) rfl dL_areAnswers_294 ?_
          refine aw_sub [0, 1, 2, 3, 5, 6, 7] (lv' := [(0, q_r 0), (1, q_i x1), (2, q_i x2), (3, q_i x3), (5, q_i x5), (6, q_i x6), (8, q_i x8)]) rfl ?_
          exact bk_L_areAnswers_295 hK hR hrec_89 hF
        · have hF := if_f hF hc
          refine aw_iconst hK (1) rfl dL_areAnswers_290 ?_
          refine aw_goto hK 295 rfl dL_areAnswers_291 ?_
          refine aw_sub [0, 1, 2, 3, 5, 6, 7] (lv' := [(0, q_r 0), (1, q_i x1), (2, q_i x2), (3, q_i x3), (5, q_i x5), (6, q_i x6), (8, q_i x8)]) rfl ?_
          exact bk_L_areAnswers_295 hK hR hrec_89 hF
def S_L_areAnswers_200 (N : Nat) (rec_89 : Mem → Int32 → Int32 → Int32 → Int32 → Int32 → Int32 → Option (Int32 × Mem)) (rec_200 : Mem → Int32 → Int32 → Int32 → Int32 → Int32 → Int32 → Int32 → Option (Int32 × Mem)) (m : Mem) (x1 : Int32) (x2 : Int32) (x3 : Int32) (x4 : Int32) (x5 : Int32) (x6 : Int32) (x8 : Int32) : Option (Int32 × Mem) :=
  if x6 ≤ (0 : Int32) then (
    B_L_areAnswers_244 N rec_89 m x1 x2 x3 x4 x5 x6 x8
  ) else (
    if (300 : Int32) ≤ x8 then (
      B_L_areAnswers_244 N rec_89 m x1 x2 x3 x4 x5 x6 x8
    ) else (
      calL (F_X7_answer N m x1 x2 x6 x8) fun r19 m18 =>
      calL (F_X7_answer N m18 x1 x2 (x6 - (1 : Int32)) x8) fun r22 m21 =>
      if r19 = r22 then (
        bnd (x8 + (1 : Int32)) fun y23 =>
        rec_200 m21 x1 x2 x3 x4 x5 x6 y23
      ) else (
        B_L_areAnswers_244 N rec_89 m21 x1 x2 x3 x4 x5 x6 x8
      )
    )
  )
def L_L_areAnswers_200 (N : Nat) (rec_89 : Mem → Int32 → Int32 → Int32 → Int32 → Int32 → Int32 → Option (Int32 × Mem)) : Nat → Mem → Int32 → Int32 → Int32 → Int32 → Int32 → Int32 → Int32 → Option (Int32 × Mem)
  | 0 => fun _ _ _ _ _ _ _ _ => none
  | f + 1 => S_L_areAnswers_200 N rec_89 (L_L_areAnswers_200 N rec_89 f)
set_option maxRecDepth 100000 in
set_option maxHeartbeats 4000000 in
theorem lp_L_areAnswers_200 {N : Nat} {K : KT} {m' : Mem} {rec_89 : Mem → Int32 → Int32 → Int32 → Int32 → Int32 → Int32 → Option (Int32 × Mem)} {r : Int32} (hK : KOK K cL_areAnswers 10 RL wsL_areAnswers 8 0 143) (hR : KRet K (some .boolean) (some r) m') (hrec_89 : ∀ {m : Mem} {x1 : Int32} {x2 : Int32} {x3 : Int32} {x4 : Int32} {x5 : Int32} {x6 : Int32}, rec_89 m x1 x2 x3 x4 x5 x6 = some (r, m') → AW K 0 89 [(0, q_r 0), (1, q_i x1), (2, q_i x2), (3, q_i x3), (4, q_i x4), (5, q_i x5), (6, q_i x6)] [] m) : ∀ (f : Nat) {m : Mem} {x1 : Int32} {x2 : Int32} {x3 : Int32} {x4 : Int32} {x5 : Int32} {x6 : Int32} {x8 : Int32}, L_L_areAnswers_200 N rec_89 f m x1 x2 x3 x4 x5 x6 x8 = some (r, m') → AW K 0 200 [(0, q_r 0), (1, q_i x1), (2, q_i x2), (3, q_i x3), (4, q_i x4), (5, q_i x5), (6, q_i x6), (8, q_i x8)] [] m := by
  intro f
  induction f with
  | zero => intro m x1 x2 x3 x4 x5 x6 x8 hF; cases hF
  | succ f hrec_200 =>
    intro m x1 x2 x3 x4 x5 x6 x8 hF
    have hF : S_L_areAnswers_200 N rec_89 (L_L_areAnswers_200 N rec_89 f) m x1 x2 x3 x4 x5 x6 x8 = some (r, m') := hF
    unfold S_L_areAnswers_200 at hF
    refine aw_iload hK 6 rfl dL_areAnswers_200 ?_
    refine aw_if_le hK 244 rfl dL_areAnswers_202 (fun hc => ?_) (fun hc => ?_)
    · have hF := if_t hF hc
      refine aw_sub [0, 1, 2, 3, 4, 5, 6, 7] (lv' := [(0, q_r 0), (1, q_i x1), (2, q_i x2), (3, q_i x3), (4, q_i x4), (5, q_i x5), (6, q_i x6), (8, q_i x8)]) rfl ?_
      exact bk_L_areAnswers_244 hK hR hrec_89 hF
    · have hF := if_f hF hc
      refine aw_iload hK 7 rfl dL_areAnswers_205 ?_
      refine aw_sipush hK (300) rfl dL_areAnswers_207 ?_
      refine aw_icmp_ge hK 244 rfl dL_areAnswers_210 (fun hc => ?_) (fun hc => ?_)
      · have hF := if_t hF hc
        refine aw_sub [0, 1, 2, 3, 4, 5, 6, 7] (lv' := [(0, q_r 0), (1, q_i x1), (2, q_i x2), (3, q_i x3), (4, q_i x4), (5, q_i x5), (6, q_i x6), (8, q_i x8)]) rfl ?_
        exact bk_L_areAnswers_244 hK hR hrec_89 hF
      · have hF := if_f hF hc
        refine aw_aload_n hK 0 rfl dL_areAnswers_213 ?_
        refine aw_iload_n hK 1 rfl dL_areAnswers_214 ?_
        refine aw_iload_n hK 2 rfl dL_areAnswers_215 ?_
        refine aw_iload hK 6 rfl dL_areAnswers_216 ?_
        refine aw_iload hK 7 rfl dL_areAnswers_218 ?_
        obtain ⟨r19, m18, h17, hF⟩ := calL_some hF
        refine aw_cv hK 7 (as := [q_i x1, q_i x2, q_i x6, q_i x8]) (trN_X7_answer h17) gL_areAnswers_X7_answer rfl rfl rfl (by decide) (na := 4) (by decide +kernel) rfl ⟨by decide, by decide⟩ (Nat.zero_le _) (Nat.le_of_ble_eq_true rfl) dL_areAnswers_220 ?_
        refine aw_aload_n hK 0 rfl dL_areAnswers_223 ?_
        refine aw_iload_n hK 1 rfl dL_areAnswers_224 ?_
        refine aw_iload_n hK 2 rfl dL_areAnswers_225 ?_
        refine aw_iload hK 6 rfl dL_areAnswers_226 ?_
        refine aw_iconst hK (1) rfl dL_areAnswers_228 ?_
        refine aw_isub hK dL_areAnswers_229 ?_
        refine aw_iload hK 7 rfl dL_areAnswers_230 ?_
        obtain ⟨r22, m21, h20, hF⟩ := calL_some hF
        refine aw_cv hK 7 (as := [q_i x1, q_i x2, q_i (x6 - (1 : Int32)), q_i x8]) (trN_X7_answer h20) gL_areAnswers_X7_answer rfl rfl rfl (by decide) (na := 4) (by decide +kernel) rfl ⟨by decide, by decide⟩ (Nat.zero_le _) (Nat.le_of_ble_eq_true rfl) dL_areAnswers_232 ?_
        refine aw_icmp_ne hK 244 rfl dL_areAnswers_235 (fun hc => ?_) (fun hc => ?_)
        · have hF := if_f hF hc
          refine aw_sub [0, 1, 2, 3, 4, 5, 6, 7] (lv' := [(0, q_r 0), (1, q_i x1), (2, q_i x2), (3, q_i x3), (4, q_i x4), (5, q_i x5), (6, q_i x6), (8, q_i x8)]) rfl ?_
          exact bk_L_areAnswers_244 hK hR hrec_89 hF
        · have hF := if_t hF hc
          obtain ⟨y23, hy23, hF⟩ := bnd_some hF
          refine aw_iinc hK (cz := 1) 7 [(8, q_i y23), (0, q_r 0), (1, q_i x1), (2, q_i x2), (3, q_i x3), (4, q_i x4), (5, q_i x5), (6, q_i x6)] (by decide) rfl rfl hy23 rfl dL_areAnswers_238 ?_
          refine aw_goto hK 200 rfl dL_areAnswers_241 ?_
          refine aw_sub [1, 2, 3, 4, 5, 6, 7, 0] (lv' := [(0, q_r 0), (1, q_i x1), (2, q_i x2), (3, q_i x3), (4, q_i x4), (5, q_i x5), (6, q_i x6), (8, q_i y23)]) rfl ?_
          exact hrec_200 hF
def B_L_areAnswers_195 (N : Nat) (rec_89 : Mem → Int32 → Int32 → Int32 → Int32 → Int32 → Int32 → Option (Int32 × Mem)) (m : Mem) (x1 : Int32) (x2 : Int32) (x3 : Int32) (x4 : Int32) (x6 : Int32) (s0 : Int32) : Option (Int32 × Mem) :=
  L_L_areAnswers_200 N rec_89 N m x1 x2 x3 x4 s0 x6 (0 : Int32)
set_option maxRecDepth 100000 in
set_option maxHeartbeats 4000000 in
theorem bk_L_areAnswers_195 {N : Nat} {K : KT} {m' : Mem} {rec_89 : Mem → Int32 → Int32 → Int32 → Int32 → Int32 → Int32 → Option (Int32 × Mem)} {r : Int32} (hK : KOK K cL_areAnswers 10 RL wsL_areAnswers 8 0 143) (hR : KRet K (some .boolean) (some r) m') (hrec_89 : ∀ {m : Mem} {x1 : Int32} {x2 : Int32} {x3 : Int32} {x4 : Int32} {x5 : Int32} {x6 : Int32}, rec_89 m x1 x2 x3 x4 x5 x6 = some (r, m') → AW K 0 89 [(0, q_r 0), (1, q_i x1), (2, q_i x2), (3, q_i x3), (4, q_i x4), (5, q_i x5), (6, q_i x6)] [] m) {m : Mem} {x1 : Int32} {x2 : Int32} {x3 : Int32} {x4 : Int32} {x6 : Int32} {s0 : Int32} (hF : B_L_areAnswers_195 N rec_89 m x1 x2 x3 x4 x6 s0 = some (r, m')) : AW K 0 195 [(0, q_r 0), (1, q_i x1), (2, q_i x2), (3, q_i x3), (4, q_i x4), (6, q_i x6)] [q_i s0] m := by
  unfold B_L_areAnswers_195 at hF
  refine aw_istore hK [(5, q_i s0), (0, q_r 0), (1, q_i x1), (2, q_i x2), (3, q_i x3), (4, q_i x4), (6, q_i x6)] (by decide) rfl dL_areAnswers_195 ?_
  refine aw_iconst hK (0) rfl dL_areAnswers_197 ?_
  refine aw_istore hK [(8, q_i (0 : Int32)), (5, q_i s0), (0, q_r 0), (1, q_i x1), (2, q_i x2), (3, q_i x3), (4, q_i x4), (6, q_i x6)] (by decide) rfl dL_areAnswers_198 ?_
  refine aw_sub [2, 3, 4, 5, 6, 1, 7, 0] (lv' := [(0, q_r 0), (1, q_i x1), (2, q_i x2), (3, q_i x3), (4, q_i x4), (5, q_i s0), (6, q_i x6), (8, q_i (0 : Int32))]) rfl ?_
  exact lp_L_areAnswers_200 hK hR hrec_89 _ hF
def B_L_areAnswers_190 (N : Nat) (rec_89 : Mem → Int32 → Int32 → Int32 → Int32 → Int32 → Int32 → Option (Int32 × Mem)) (m : Mem) (x1 : Int32) (x2 : Int32) (x3 : Int32) (x4 : Int32) (x6 : Int32) : Option (Int32 × Mem) :=
  B_L_areAnswers_195 N rec_89 m x1 x2 x3 x4 x6 (1 : Int32)
set_option maxRecDepth 100000 in
set_option maxHeartbeats 4000000 in
theorem bk_L_areAnswers_190 {N : Nat} {K : KT} {m' : Mem} {rec_89 : Mem → Int32 → Int32 → Int32 → Int32 → Int32 → Int32 → Option (Int32 × Mem)} {r : Int32} (hK : KOK K cL_areAnswers 10 RL wsL_areAnswers 8 0 143) (hR : KRet K (some .boolean) (some r) m') (hrec_89 : ∀ {m : Mem} {x1 : Int32} {x2 : Int32} {x3 : Int32} {x4 : Int32} {x5 : Int32} {x6 : Int32}, rec_89 m x1 x2 x3 x4 x5 x6 = some (r, m') → AW K 0 89 [(0, q_r 0), (1, q_i x1), (2, q_i x2), (3, q_i x3), (4, q_i x4), (5, q_i x5), (6, q_i x6)] [] m) {m : Mem} {x1 : Int32} {x2 : Int32} {x3 : Int32} {x4 : Int32} {x6 : Int32} (hF : B_L_areAnswers_190 N rec_89 m x1 x2 x3 x4 x6 = some (r, m')) : AW K 0 190 [(0, q_r 0), (1, q_i x1), (2, q_i x2), (3, q_i x3), (4, q_i x4), (6, q_i x6)] [] m := by
  unfold B_L_areAnswers_190 at hF
  refine aw_iconst hK (1) rfl dL_areAnswers_190 ?_
  refine aw_goto hK 195 rfl dL_areAnswers_191 ?_
  refine aw_sub [0, 1, 2, 3, 4, 5] (lv' := [(0, q_r 0), (1, q_i x1), (2, q_i x2), (3, q_i x3), (4, q_i x4), (6, q_i x6)]) rfl ?_
  exact bk_L_areAnswers_195 hK hR hrec_89 hF
def B_L_areAnswers_180 (N : Nat) (rec_89 : Mem → Int32 → Int32 → Int32 → Int32 → Int32 → Int32 → Option (Int32 × Mem)) (m : Mem) (x1 : Int32) (x2 : Int32) (x3 : Int32) (x4 : Int32) (x5 : Int32) (x6 : Int32) (x7 : Int32) : Option (Int32 × Mem) :=
  if x5 = (0 : Int32) then (
    if x7 = (0 : Int32) then (
      B_L_areAnswers_195 N rec_89 m x1 x2 x3 x4 x6 (0 : Int32)
    ) else (
      B_L_areAnswers_190 N rec_89 m x1 x2 x3 x4 x6
    )
  ) else (
    B_L_areAnswers_190 N rec_89 m x1 x2 x3 x4 x6
  )
set_option maxRecDepth 100000 in
set_option maxHeartbeats 4000000 in
theorem bk_L_areAnswers_180 {N : Nat} {K : KT} {m' : Mem} {rec_89 : Mem → Int32 → Int32 → Int32 → Int32 → Int32 → Int32 → Option (Int32 × Mem)} {r : Int32} (hK : KOK K cL_areAnswers 10 RL wsL_areAnswers 8 0 143) (hR : KRet K (some .boolean) (some r) m') (hrec_89 : ∀ {m : Mem} {x1 : Int32} {x2 : Int32} {x3 : Int32} {x4 : Int32} {x5 : Int32} {x6 : Int32}, rec_89 m x1 x2 x3 x4 x5 x6 = some (r, m') → AW K 0 89 [(0, q_r 0), (1, q_i x1), (2, q_i x2), (3, q_i x3), (4, q_i x4), (5, q_i x5), (6, q_i x6)] [] m) {m : Mem} {x1 : Int32} {x2 : Int32} {x3 : Int32} {x4 : Int32} {x5 : Int32} {x6 : Int32} {x7 : Int32} (hF : B_L_areAnswers_180 N rec_89 m x1 x2 x3 x4 x5 x6 x7 = some (r, m')) : AW K 0 180 [(0, q_r 0), (1, q_i x1), (2, q_i x2), (3, q_i x3), (4, q_i x4), (5, q_i x5), (6, q_i x6), (7, q_i x7)] [] m := by
  unfold B_L_areAnswers_180 at hF
  refine aw_iload hK 5 rfl dL_areAnswers_180 ?_
  refine aw_if_ne hK 190 rfl dL_areAnswers_182 (fun hc => ?_) (fun hc => ?_)
  · have hF := if_f hF hc
    refine aw_sub [0, 1, 2, 3, 4, 6] (lv' := [(0, q_r 0), (1, q_i x1), (2, q_i x2), (3, q_i x3), (4, q_i x4), (6, q_i x6)]) rfl ?_
    exact bk_L_areAnswers_190 hK hR hrec_89 hF
  · have hF := if_t hF hc
    refine aw_iload hK 7 rfl dL_areAnswers_185 ?_
    refine aw_if_eq hK 194 rfl dL_areAnswers_187 (fun hc => ?_) (fun hc => ?_)
    · have hF := if_t hF hc
      refine aw_iconst hK (0) rfl dL_areAnswers_194 ?_
      refine aw_sub [0, 1, 2, 3, 4, 6] (lv' := [(0, q_r 0), (1, q_i x1), (2, q_i x2), (3, q_i x3), (4, q_i x4), (6, q_i x6)]) rfl ?_
      exact bk_L_areAnswers_195 hK hR hrec_89 hF
    · have hF := if_f hF hc
      refine aw_sub [0, 1, 2, 3, 4, 6] (lv' := [(0, q_r 0), (1, q_i x1), (2, q_i x2), (3, q_i x3), (4, q_i x4), (6, q_i x6)]) rfl ?_
      exact bk_L_areAnswers_190 hK hR hrec_89 hF
def B_L_areAnswers_172 (N : Nat) (rec_89 : Mem → Int32 → Int32 → Int32 → Int32 → Int32 → Int32 → Option (Int32 × Mem)) (rec_106 : Mem → Int32 → Int32 → Int32 → Int32 → Int32 → Int32 → Int32 → Int32 → Option (Int32 × Mem)) (m : Mem) (x1 : Int32) (x2 : Int32) (x3 : Int32) (x5 : Int32) (x6 : Int32) (x7 : Int32) (x8 : Int32) (s0 : Int32) : Option (Int32 × Mem) :=
  bnd (x8 + (1 : Int32)) fun y16 =>
  rec_106 m x1 x2 x3 s0 x5 x6 x7 y16
set_option maxRecDepth 100000 in
set_option maxHeartbeats 4000000 in
theorem bk_L_areAnswers_172 {N : Nat} {K : KT} {m' : Mem} {rec_89 : Mem → Int32 → Int32 → Int32 → Int32 → Int32 → Int32 → Option (Int32 × Mem)} {rec_106 : Mem → Int32 → Int32 → Int32 → Int32 → Int32 → Int32 → Int32 → Int32 → Option (Int32 × Mem)} {r : Int32} (hK : KOK K cL_areAnswers 10 RL wsL_areAnswers 8 0 143) (hR : KRet K (some .boolean) (some r) m') (hrec_89 : ∀ {m : Mem} {x1 : Int32} {x2 : Int32} {x3 : Int32} {x4 : Int32} {x5 : Int32} {x6 : Int32}, rec_89 m x1 x2 x3 x4 x5 x6 = some (r, m') → AW K 0 89 [(0, q_r 0), (1, q_i x1), (2, q_i x2), (3, q_i x3), (4, q_i x4), (5, q_i x5), (6, q_i x6)] [] m) (hrec_106 : ∀ {m : Mem} {x1 : Int32} {x2 : Int32} {x3 : Int32} {x4 : Int32} {x5 : Int32} {x6 : Int32} {x7 : Int32} {x8 : Int32}, rec_106 m x1 x2 x3 x4 x5 x6 x7 x8 = some (r, m') → AW K 0 106 [(0, q_r 0), (1, q_i x1), (2, q_i x2), (3, q_i x3), (4, q_i x4), (5, q_i x5), (6, q_i x6), (7, q_i x7), (8, q_i x8)] [] m) {m : Mem} {x1 : Int32} {x2 : Int32} {x3 : Int32} {x5 : Int32} {x6 : Int32} {x7 : Int32} {x8 : Int32} {s0 : Int32} (hF : B_L_areAnswers_172 N rec_89 rec_106 m x1 x2 x3 x5 x6 x7 x8 s0 = some (r, m')) : AW K 0 172 [(0, q_r 0), (1, q_i x1), (2, q_i x2), (3, q_i x3), (5, q_i x5), (6, q_i x6), (7, q_i x7), (8, q_i x8)] [q_i s0] m := by
  unfold B_L_areAnswers_172 at hF
  refine aw_istore hK [(4, q_i s0), (0, q_r 0), (1, q_i x1), (2, q_i x2), (3, q_i x3), (5, q_i x5), (6, q_i x6), (7, q_i x7), (8, q_i x8)] (by decide) rfl dL_areAnswers_172 ?_
  obtain ⟨y16, hy16, hF⟩ := bnd_some hF
  refine aw_iinc hK (cz := 1) 8 [(8, q_i y16), (4, q_i s0), (0, q_r 0), (1, q_i x1), (2, q_i x2), (3, q_i x3), (5, q_i x5), (6, q_i x6), (7, q_i x7)] (by decide) rfl rfl hy16 rfl dL_areAnswers_174 ?_
  refine aw_goto hK 106 rfl dL_areAnswers_177 ?_
  refine aw_sub [2, 3, 4, 5, 1, 6, 7, 8, 0] (lv' := [(0, q_r 0), (1, q_i x1), (2, q_i x2), (3, q_i x3), (4, q_i s0), (5, q_i x5), (6, q_i x6), (7, q_i x7), (8, q_i y16)]) rfl ?_
  exact hrec_106 hF
def B_L_areAnswers_171 (N : Nat) (rec_89 : Mem → Int32 → Int32 → Int32 → Int32 → Int32 → Int32 → Option (Int32 × Mem)) (rec_106 : Mem → Int32 → Int32 → Int32 → Int32 → Int32 → Int32 → Int32 → Int32 → Option (Int32 × Mem)) (m : Mem) (x1 : Int32) (x2 : Int32) (x3 : Int32) (x5 : Int32) (x6 : Int32) (x7 : Int32) (x8 : Int32) : Option (Int32 × Mem) :=
  B_L_areAnswers_172 N rec_89 rec_106 m x1 x2 x3 x5 x6 x7 x8 (0 : Int32)
set_option maxRecDepth 100000 in
set_option maxHeartbeats 4000000 in
theorem bk_L_areAnswers_171 {N : Nat} {K : KT} {m' : Mem} {rec_89 : Mem → Int32 → Int32 → Int32 → Int32 → Int32 → Int32 → Option (Int32 × Mem)} {rec_106 : Mem → Int32 → Int32 → Int32 → Int32 → Int32 → Int32 → Int32 → Int32 → Option (Int32 × Mem)} {r : Int32} (hK : KOK K cL_areAnswers 10 RL wsL_areAnswers 8 0 143) (hR : KRet K (some .boolean) (some r) m') (hrec_89 : ∀ {m : Mem} {x1 : Int32} {x2 : Int32} {x3 : Int32} {x4 : Int32} {x5 : Int32} {x6 : Int32}, rec_89 m x1 x2 x3 x4 x5 x6 = some (r, m') → AW K 0 89 [(0, q_r 0), (1, q_i x1), (2, q_i x2), (3, q_i x3), (4, q_i x4), (5, q_i x5), (6, q_i x6)] [] m) (hrec_106 : ∀ {m : Mem} {x1 : Int32} {x2 : Int32} {x3 : Int32} {x4 : Int32} {x5 : Int32} {x6 : Int32} {x7 : Int32} {x8 : Int32}, rec_106 m x1 x2 x3 x4 x5 x6 x7 x8 = some (r, m') → AW K 0 106 [(0, q_r 0), (1, q_i x1), (2, q_i x2), (3, q_i x3), (4, q_i x4), (5, q_i x5), (6, q_i x6), (7, q_i x7), (8, q_i x8)] [] m) {m : Mem} {x1 : Int32} {x2 : Int32} {x3 : Int32} {x5 : Int32} {x6 : Int32} {x7 : Int32} {x8 : Int32} (hF : B_L_areAnswers_171 N rec_89 rec_106 m x1 x2 x3 x5 x6 x7 x8 = some (r, m')) : AW K 0 171 [(0, q_r 0), (1, q_i x1), (2, q_i x2), (3, q_i x3), (5, q_i x5), (6, q_i x6), (7, q_i x7), (8, q_i x8)] [] m := by
  unfold B_L_areAnswers_171 at hF
  refine aw_iconst hK (0) rfl dL_areAnswers_171 ?_
  refine aw_sub [0, 1, 2, 3, 4, 5, 6, 7] (lv' := [(0, q_r 0), (1, q_i x1), (2, q_i x2), (3, q_i x3), (5, q_i x5), (6, q_i x6), (7, q_i x7), (8, q_i x8)]) rfl ?_
  exact bk_L_areAnswers_172 hK hR hrec_89 hrec_106 hF
def B_L_areAnswers_148 (N : Nat) (rec_89 : Mem → Int32 → Int32 → Int32 → Int32 → Int32 → Int32 → Option (Int32 × Mem)) (rec_106 : Mem → Int32 → Int32 → Int32 → Int32 → Int32 → Int32 → Int32 → Int32 → Option (Int32 × Mem)) (m : Mem) (x1 : Int32) (x2 : Int32) (x3 : Int32) (x4 : Int32) (x5 : Int32) (x6 : Int32) (x8 : Int32) (x9 : Int32) (s0 : Int32) : Option (Int32 × Mem) :=
  if x4 = (0 : Int32) then (
    B_L_areAnswers_171 N rec_89 rec_106 m x1 x2 x3 x5 x6 s0 x8
  ) else (
    if x9 < (0 : Int32) then (
      B_L_areAnswers_171 N rec_89 rec_106 m x1 x2 x3 x5 x6 s0 x8
    ) else (
      if (9 : Int32) ≤ x9 then (
        B_L_areAnswers_171 N rec_89 rec_106 m x1 x2 x3 x5 x6 s0 x8
      ) else (
        B_L_areAnswers_172 N rec_89 rec_106 m x1 x2 x3 x5 x6 s0 x8 (1 : Int32)
      )
    )
  )
set_option maxRecDepth 100000 in
set_option maxHeartbeats 4000000 in
theorem bk_L_areAnswers_148 {N : Nat} {K : KT} {m' : Mem} {rec_89 : Mem → Int32 → Int32 → Int32 → Int32 → Int32 → Int32 → Option (Int32 × Mem)} {rec_106 : Mem → Int32 → Int32 → Int32 → Int32 → Int32 → Int32 → Int32 → Int32 → Option (Int32 × Mem)} {r : Int32} (hK : KOK K cL_areAnswers 10 RL wsL_areAnswers 8 0 143) (hR : KRet K (some .boolean) (some r) m') (hrec_89 : ∀ {m : Mem} {x1 : Int32} {x2 : Int32} {x3 : Int32} {x4 : Int32} {x5 : Int32} {x6 : Int32}, rec_89 m x1 x2 x3 x4 x5 x6 = some (r, m') → AW K 0 89 [(0, q_r 0), (1, q_i x1), (2, q_i x2), (3, q_i x3), (4, q_i x4), (5, q_i x5), (6, q_i x6)] [] m) (hrec_106 : ∀ {m : Mem} {x1 : Int32} {x2 : Int32} {x3 : Int32} {x4 : Int32} {x5 : Int32} {x6 : Int32} {x7 : Int32} {x8 : Int32}, rec_106 m x1 x2 x3 x4 x5 x6 x7 x8 = some (r, m') → AW K 0 106 [(0, q_r 0), (1, q_i x1), (2, q_i x2), (3, q_i x3), (4, q_i x4), (5, q_i x5), (6, q_i x6), (7, q_i x7), (8, q_i x8)] [] m) {m : Mem} {x1 : Int32} {x2 : Int32} {x3 : Int32} {x4 : Int32} {x5 : Int32} {x6 : Int32} {x8 : Int32} {x9 : Int32} {s0 : Int32} (hF : B_L_areAnswers_148 N rec_89 rec_106 m x1 x2 x3 x4 x5 x6 x8 x9 s0 = some (r, m')) : AW K 0 148 [(0, q_r 0), (1, q_i x1), (2, q_i x2), (3, q_i x3), (4, q_i x4), (5, q_i x5), (6, q_i x6), (8, q_i x8), (9, q_i x9)] [q_i s0] m := by
  unfold B_L_areAnswers_148 at hF
  refine aw_istore hK [(7, q_i s0), (0, q_r 0), (1, q_i x1), (2, q_i x2), (3, q_i x3), (4, q_i x4), (5, q_i x5), (6, q_i x6), (8, q_i x8), (9, q_i x9)] (by decide) rfl dL_areAnswers_148 ?_
  refine aw_iload hK 5 rfl dL_areAnswers_150 ?_
  refine aw_if_eq hK 171 rfl dL_areAnswers_152 (fun hc => ?_) (fun hc => ?_)
  · have hF := if_t hF hc
    refine aw_sub [1, 2, 3, 4, 6, 7, 0, 8] (lv' := [(0, q_r 0), (1, q_i x1), (2, q_i x2), (3, q_i x3), (5, q_i x5), (6, q_i x6), (7, q_i s0), (8, q_i x8)]) rfl ?_
    exact bk_L_areAnswers_171 hK hR hrec_89 hrec_106 hF
  · have hF := if_f hF hc
    refine aw_iload hK 9 rfl dL_areAnswers_155 ?_
    refine aw_if_lt hK 171 rfl dL_areAnswers_157 (fun hc => ?_) (fun hc => ?_)
    · have hF := if_t hF hc
      refine aw_sub [1, 2, 3, 4, 6, 7, 0, 8] (lv' := [(0, q_r 0), (1, q_i x1), (2, q_i x2), (3, q_i x3), (5, q_i x5), (6, q_i x6), (7, q_i s0), (8, q_i x8)]) rfl ?_
      exact bk_L_areAnswers_171 hK hR hrec_89 hrec_106 hF
    · have hF := if_f hF hc
      refine aw_iload hK 9 rfl dL_areAnswers_160 ?_
      refine aw_bipush hK (9) rfl dL_areAnswers_162 ?_
      refine aw_icmp_ge hK 171 rfl dL_areAnswers_164 (fun hc => ?_) (fun hc => ?_)
      · have hF := if_t hF hc
        refine aw_sub [1, 2, 3, 4, 6, 7, 0, 8] (lv' := [(0, q_r 0), (1, q_i x1), (2, q_i x2), (3, q_i x3), (5, q_i x5), (6, q_i x6), (7, q_i s0), (8, q_i x8)]) rfl ?_
        exact bk_L_areAnswers_171 hK hR hrec_89 hrec_106 hF
      · have hF := if_f hF hc
        refine aw_iconst hK (1) rfl dL_areAnswers_167 ?_
        refine aw_goto hK 172 rfl dL_areAnswers_168 ?_
        refine aw_sub [1, 2, 3, 4, 6, 7, 0, 8] (lv' := [(0, q_r 0), (1, q_i x1), (2, q_i x2), (3, q_i x3), (5, q_i x5), (6, q_i x6), (7, q_i s0), (8, q_i x8)]) rfl ?_
        exact bk_L_areAnswers_172 hK hR hrec_89 hrec_106 hF
def S_L_areAnswers_106 (N : Nat) (rec_89 : Mem → Int32 → Int32 → Int32 → Int32 → Int32 → Int32 → Option (Int32 × Mem)) (rec_106 : Mem → Int32 → Int32 → Int32 → Int32 → Int32 → Int32 → Int32 → Int32 → Option (Int32 × Mem)) (m : Mem) (x1 : Int32) (x2 : Int32) (x3 : Int32) (x4 : Int32) (x5 : Int32) (x6 : Int32) (x7 : Int32) (x8 : Int32) : Option (Int32 × Mem) :=
  if (12 : Int32) ≤ x8 then (
    B_L_areAnswers_180 N rec_89 m x1 x2 x3 x4 x5 x6 x7
  ) else (
    if x7 = (0 : Int32) then (
      B_L_areAnswers_180 N rec_89 m x1 x2 x3 x4 x5 x6 x7
    ) else (
      calL (F_X7_answer N m x1 x2 x6 x8) fun r12 m11 =>
      calL (F_X7_best N m11 x1 x2 x8) fun r15 m14 =>
      if r12 = r15 then (
        B_L_areAnswers_148 N rec_89 rec_106 m14 x1 x2 x3 x4 x5 x6 x8 r12 (1 : Int32)
      ) else (
        B_L_areAnswers_148 N rec_89 rec_106 m14 x1 x2 x3 x4 x5 x6 x8 r12 (0 : Int32)
      )
    )
  )
def L_L_areAnswers_106 (N : Nat) (rec_89 : Mem → Int32 → Int32 → Int32 → Int32 → Int32 → Int32 → Option (Int32 × Mem)) : Nat → Mem → Int32 → Int32 → Int32 → Int32 → Int32 → Int32 → Int32 → Int32 → Option (Int32 × Mem)
  | 0 => fun _ _ _ _ _ _ _ _ _ => none
  | f + 1 => S_L_areAnswers_106 N rec_89 (L_L_areAnswers_106 N rec_89 f)
set_option maxRecDepth 100000 in
set_option maxHeartbeats 4000000 in
theorem lp_L_areAnswers_106 {N : Nat} {K : KT} {m' : Mem} {rec_89 : Mem → Int32 → Int32 → Int32 → Int32 → Int32 → Int32 → Option (Int32 × Mem)} {r : Int32} (hK : KOK K cL_areAnswers 10 RL wsL_areAnswers 8 0 143) (hR : KRet K (some .boolean) (some r) m') (hrec_89 : ∀ {m : Mem} {x1 : Int32} {x2 : Int32} {x3 : Int32} {x4 : Int32} {x5 : Int32} {x6 : Int32}, rec_89 m x1 x2 x3 x4 x5 x6 = some (r, m') → AW K 0 89 [(0, q_r 0), (1, q_i x1), (2, q_i x2), (3, q_i x3), (4, q_i x4), (5, q_i x5), (6, q_i x6)] [] m) : ∀ (f : Nat) {m : Mem} {x1 : Int32} {x2 : Int32} {x3 : Int32} {x4 : Int32} {x5 : Int32} {x6 : Int32} {x7 : Int32} {x8 : Int32}, L_L_areAnswers_106 N rec_89 f m x1 x2 x3 x4 x5 x6 x7 x8 = some (r, m') → AW K 0 106 [(0, q_r 0), (1, q_i x1), (2, q_i x2), (3, q_i x3), (4, q_i x4), (5, q_i x5), (6, q_i x6), (7, q_i x7), (8, q_i x8)] [] m := by
  intro f
  induction f with
  | zero => intro m x1 x2 x3 x4 x5 x6 x7 x8 hF; cases hF
  | succ f hrec_106 =>
    intro m x1 x2 x3 x4 x5 x6 x7 x8 hF
    have hF : S_L_areAnswers_106 N rec_89 (L_L_areAnswers_106 N rec_89 f) m x1 x2 x3 x4 x5 x6 x7 x8 = some (r, m') := hF
    unfold S_L_areAnswers_106 at hF
    refine aw_iload hK 8 rfl dL_areAnswers_106 ?_
    refine aw_bipush hK (12) rfl dL_areAnswers_108 ?_
    refine aw_icmp_ge hK 180 rfl dL_areAnswers_110 (fun hc => ?_) (fun hc => ?_)
    · have hF := if_t hF hc
      refine aw_sub [0, 1, 2, 3, 4, 5, 6, 7] (lv' := [(0, q_r 0), (1, q_i x1), (2, q_i x2), (3, q_i x3), (4, q_i x4), (5, q_i x5), (6, q_i x6), (7, q_i x7)]) rfl ?_
      exact bk_L_areAnswers_180 hK hR hrec_89 hF
    · have hF := if_f hF hc
      refine aw_iload hK 7 rfl dL_areAnswers_113 ?_
      refine aw_if_eq hK 180 rfl dL_areAnswers_115 (fun hc => ?_) (fun hc => ?_)
      · have hF := if_t hF hc
        refine aw_sub [0, 1, 2, 3, 4, 5, 6, 7] (lv' := [(0, q_r 0), (1, q_i x1), (2, q_i x2), (3, q_i x3), (4, q_i x4), (5, q_i x5), (6, q_i x6), (7, q_i x7)]) rfl ?_
        exact bk_L_areAnswers_180 hK hR hrec_89 hF
      · have hF := if_f hF hc
        refine aw_aload_n hK 0 rfl dL_areAnswers_118 ?_
        refine aw_iload_n hK 1 rfl dL_areAnswers_119 ?_
        refine aw_iload_n hK 2 rfl dL_areAnswers_120 ?_
        refine aw_iload hK 6 rfl dL_areAnswers_121 ?_
        refine aw_iload hK 8 rfl dL_areAnswers_123 ?_
        obtain ⟨r12, m11, h10, hF⟩ := calL_some hF
        refine aw_cv hK 7 (as := [q_i x1, q_i x2, q_i x6, q_i x8]) (trN_X7_answer h10) gL_areAnswers_X7_answer rfl rfl rfl (by decide) (na := 4) (by decide +kernel) rfl ⟨by decide, by decide⟩ (Nat.zero_le _) (Nat.le_of_ble_eq_true rfl) dL_areAnswers_125 ?_
        refine aw_istore hK [(9, q_i r12), (0, q_r 0), (1, q_i x1), (2, q_i x2), (3, q_i x3), (4, q_i x4), (5, q_i x5), (6, q_i x6), (7, q_i x7), (8, q_i x8)] (by decide) rfl dL_areAnswers_128 ?_
        refine aw_iload hK 0 rfl dL_areAnswers_130 ?_
        refine aw_aload_n hK 1 rfl dL_areAnswers_132 ?_
        refine aw_iload_n hK 2 rfl dL_areAnswers_133 ?_
        refine aw_iload_n hK 3 rfl dL_areAnswers_134 ?_
        refine aw_iload hK 9 rfl dL_areAnswers_135 ?_
        obtain ⟨r15, m14, h13, hF⟩ := calL_some hF
        refine aw_cv hK 7 (as := [q_i x1, q_i x2, q_i x8]) (trN_X7_best h13) gL_areAnswers_X7_best rfl rfl rfl (by decide) (na := 3) (by decide +kernel) rfl ⟨by decide, by decide⟩ (Nat.zero_le _) (Nat.le_of_ble_eq_true rfl) dL_areAnswers_137 ?_
        refine aw_icmp_ne hK 147 rfl dL_areAnswers_140 (fun hc => ?_) (fun hc => ?_)
        · have hF := if_f hF hc
          refine aw_iconst hK (0) rfl dL_areAnswers_147 ?_
          refine aw_sub [1, 2, 3, 4, 5, 6, 7, 9, 0] (lv' := [(0, q_r 0), (1, q_i x1), (2, q_i x2), (3, q_i x3), (4, q_i x4), (5, q_i x5), (6, q_i x6), (8, q_i x8), (9, q_i r12)]) rfl ?_
          exact bk_L_areAnswers_148 hK hR hrec_89 hrec_106 hF
        · have hF := if_t hF hc
          refine aw_iconst hK (1) rfl dL_areAnswers_143 ?_
          refine aw_goto hK 148 rfl dL_areAnswers_144 ?_
          refine aw_sub [1, 2, 3, 4, 5, 6, 7, 9, 0] (lv' := [(0, q_r 0), (1, q_i x1), (2, q_i x2), (3, q_i x3), (4, q_i x4), (5, q_i x5), (6, q_i x6), (8, q_i x8), (9, q_i r12)]) rfl ?_
          exact bk_L_areAnswers_148 hK hR hrec_89 hrec_106 hF
def S_L_areAnswers_89 (N : Nat) (rec_89 : Mem → Int32 → Int32 → Int32 → Int32 → Int32 → Int32 → Option (Int32 × Mem)) (m : Mem) (x1 : Int32) (x2 : Int32) (x3 : Int32) (x4 : Int32) (x5 : Int32) (x6 : Int32) : Option (Int32 × Mem) :=
  if x3 ≤ x6 then (
    B_L_areAnswers_350 N m x4 x5
  ) else (
    if x4 = (0 : Int32) then (
      B_L_areAnswers_350 N m x4 x5
    ) else (
      L_L_areAnswers_106 N rec_89 N m x1 x2 x3 x4 x5 x6 (1 : Int32) (0 : Int32)
    )
  )
def L_L_areAnswers_89 (N : Nat) : Nat → Mem → Int32 → Int32 → Int32 → Int32 → Int32 → Int32 → Option (Int32 × Mem)
  | 0 => fun _ _ _ _ _ _ _ => none
  | f + 1 => S_L_areAnswers_89 N (L_L_areAnswers_89 N f)
set_option maxRecDepth 100000 in
set_option maxHeartbeats 4000000 in
theorem lp_L_areAnswers_89 {N : Nat} {K : KT} {m' : Mem} {r : Int32} (hK : KOK K cL_areAnswers 10 RL wsL_areAnswers 8 0 143) (hR : KRet K (some .boolean) (some r) m') : ∀ (f : Nat) {m : Mem} {x1 : Int32} {x2 : Int32} {x3 : Int32} {x4 : Int32} {x5 : Int32} {x6 : Int32}, L_L_areAnswers_89 N f m x1 x2 x3 x4 x5 x6 = some (r, m') → AW K 0 89 [(0, q_r 0), (1, q_i x1), (2, q_i x2), (3, q_i x3), (4, q_i x4), (5, q_i x5), (6, q_i x6)] [] m := by
  intro f
  induction f with
  | zero => intro m x1 x2 x3 x4 x5 x6 hF; cases hF
  | succ f hrec_89 =>
    intro m x1 x2 x3 x4 x5 x6 hF
    have hF : S_L_areAnswers_89 N (L_L_areAnswers_89 N f) m x1 x2 x3 x4 x5 x6 = some (r, m') := hF
    unfold S_L_areAnswers_89 at hF
    refine aw_iload hK 6 rfl dL_areAnswers_89 ?_
    refine aw_iload_n hK 3 rfl dL_areAnswers_91 ?_
    refine aw_icmp_ge hK 350 rfl dL_areAnswers_92 (fun hc => ?_) (fun hc => ?_)
    · have hF := if_t hF hc
      refine aw_sub [4, 5] (lv' := [(4, q_i x4), (5, q_i x5)]) rfl ?_
      exact bk_L_areAnswers_350 hK hR hF
    · have hF := if_f hF hc
      refine aw_iload hK 4 rfl dL_areAnswers_95 ?_
      refine aw_if_eq hK 350 rfl dL_areAnswers_97 (fun hc => ?_) (fun hc => ?_)
      · have hF := if_t hF hc
        refine aw_sub [4, 5] (lv' := [(4, q_i x4), (5, q_i x5)]) rfl ?_
        exact bk_L_areAnswers_350 hK hR hF
      · have hF := if_f hF hc
        refine aw_iconst hK (1) rfl dL_areAnswers_100 ?_
        refine aw_istore hK [(7, q_i (1 : Int32)), (0, q_r 0), (1, q_i x1), (2, q_i x2), (3, q_i x3), (4, q_i x4), (5, q_i x5), (6, q_i x6)] (by decide) rfl dL_areAnswers_101 ?_
        refine aw_iconst hK (0) rfl dL_areAnswers_103 ?_
        refine aw_istore hK [(8, q_i (0 : Int32)), (7, q_i (1 : Int32)), (0, q_r 0), (1, q_i x1), (2, q_i x2), (3, q_i x3), (4, q_i x4), (5, q_i x5), (6, q_i x6)] (by decide) rfl dL_areAnswers_104 ?_
        refine aw_sub [2, 3, 4, 5, 6, 7, 8, 1, 0] (lv' := [(0, q_r 0), (1, q_i x1), (2, q_i x2), (3, q_i x3), (4, q_i x4), (5, q_i x5), (6, q_i x6), (7, q_i (1 : Int32)), (8, q_i (0 : Int32))]) rfl ?_
        exact lp_L_areAnswers_106 hK hR hrec_89 _ hF
def B_L_areAnswers_84 (N : Nat) (m : Mem) (x1 : Int32) (x2 : Int32) (x3 : Int32) (x4 : Int32) (s0 : Int32) : Option (Int32 × Mem) :=
  L_L_areAnswers_89 N N m x1 x2 x3 x4 s0 (0 : Int32)
set_option maxRecDepth 100000 in
set_option maxHeartbeats 4000000 in
theorem bk_L_areAnswers_84 {N : Nat} {K : KT} {m' : Mem} {r : Int32} (hK : KOK K cL_areAnswers 10 RL wsL_areAnswers 8 0 143) (hR : KRet K (some .boolean) (some r) m') {m : Mem} {x1 : Int32} {x2 : Int32} {x3 : Int32} {x4 : Int32} {s0 : Int32} (hF : B_L_areAnswers_84 N m x1 x2 x3 x4 s0 = some (r, m')) : AW K 0 84 [(0, q_r 0), (1, q_i x1), (2, q_i x2), (3, q_i x3), (4, q_i x4)] [q_i s0] m := by
  unfold B_L_areAnswers_84 at hF
  refine aw_istore hK [(5, q_i s0), (0, q_r 0), (1, q_i x1), (2, q_i x2), (3, q_i x3), (4, q_i x4)] (by decide) rfl dL_areAnswers_84 ?_
  refine aw_iconst hK (0) rfl dL_areAnswers_86 ?_
  refine aw_istore hK [(6, q_i (0 : Int32)), (5, q_i s0), (0, q_r 0), (1, q_i x1), (2, q_i x2), (3, q_i x3), (4, q_i x4)] (by decide) rfl dL_areAnswers_87 ?_
  refine aw_sub [2, 3, 4, 5, 6, 1, 0] (lv' := [(0, q_r 0), (1, q_i x1), (2, q_i x2), (3, q_i x3), (4, q_i x4), (5, q_i s0), (6, q_i (0 : Int32))]) rfl ?_
  exact lp_L_areAnswers_89 hK hR _ hF
def B_L_areAnswers_79 (N : Nat) (m : Mem) (x1 : Int32) (x2 : Int32) (x3 : Int32) (x4 : Int32) : Option (Int32 × Mem) :=
  B_L_areAnswers_84 N m x1 x2 x3 x4 (1 : Int32)
set_option maxRecDepth 100000 in
set_option maxHeartbeats 4000000 in
theorem bk_L_areAnswers_79 {N : Nat} {K : KT} {m' : Mem} {r : Int32} (hK : KOK K cL_areAnswers 10 RL wsL_areAnswers 8 0 143) (hR : KRet K (some .boolean) (some r) m') {m : Mem} {x1 : Int32} {x2 : Int32} {x3 : Int32} {x4 : Int32} (hF : B_L_areAnswers_79 N m x1 x2 x3 x4 = some (r, m')) : AW K 0 79 [(0, q_r 0), (1, q_i x1), (2, q_i x2), (3, q_i x3), (4, q_i x4)] [] m := by
  unfold B_L_areAnswers_79 at hF
  refine aw_iconst hK (1) rfl dL_areAnswers_79 ?_
  refine aw_goto hK 84 rfl dL_areAnswers_80 ?_
  refine aw_sub [0, 1, 2, 3, 4] (lv' := [(0, q_r 0), (1, q_i x1), (2, q_i x2), (3, q_i x3), (4, q_i x4)]) rfl ?_
  exact bk_L_areAnswers_84 hK hR hF
def B_L_areAnswers_67 (N : Nat) (m : Mem) (x1 : Int32) (x2 : Int32) (x3 : Int32) (s0 : Int32) : Option (Int32 × Mem) :=
  if x3 = (20 : Int32) then (
    B_L_areAnswers_79 N m x1 x2 x3 s0
  ) else (
    if x3 = (0 : Int32) then (
      B_L_areAnswers_79 N m x1 x2 x3 s0
    ) else (
      B_L_areAnswers_84 N m x1 x2 x3 s0 (0 : Int32)
    )
  )
set_option maxRecDepth 100000 in
set_option maxHeartbeats 4000000 in
theorem bk_L_areAnswers_67 {N : Nat} {K : KT} {m' : Mem} {r : Int32} (hK : KOK K cL_areAnswers 10 RL wsL_areAnswers 8 0 143) (hR : KRet K (some .boolean) (some r) m') {m : Mem} {x1 : Int32} {x2 : Int32} {x3 : Int32} {s0 : Int32} (hF : B_L_areAnswers_67 N m x1 x2 x3 s0 = some (r, m')) : AW K 0 67 [(0, q_r 0), (1, q_i x1), (2, q_i x2), (3, q_i x3)] [q_i s0] m := by
  unfold B_L_areAnswers_67 at hF
  refine aw_istore hK [(4, q_i s0), (0, q_r 0), (1, q_i x1), (2, q_i x2), (3, q_i x3)] (by decide) rfl dL_areAnswers_67 ?_
  refine aw_iload_n hK 4 rfl dL_areAnswers_69 ?_
  refine aw_bipush hK (20) rfl dL_areAnswers_70 ?_
  refine aw_icmp_eq hK 79 rfl dL_areAnswers_72 (fun hc => ?_) (fun hc => ?_)
  · have hF := if_t hF hc
    refine aw_sub [1, 2, 3, 4, 0] (lv' := [(0, q_r 0), (1, q_i x1), (2, q_i x2), (3, q_i x3), (4, q_i s0)]) rfl ?_
    exact bk_L_areAnswers_79 hK hR hF
  · have hF := if_f hF hc
    refine aw_iload_n hK 4 rfl dL_areAnswers_75 ?_
    refine aw_if_ne hK 83 rfl dL_areAnswers_76 (fun hc => ?_) (fun hc => ?_)
    · have hF := if_f hF hc
      refine aw_iconst hK (0) rfl dL_areAnswers_83 ?_
      refine aw_sub [1, 2, 3, 4, 0] (lv' := [(0, q_r 0), (1, q_i x1), (2, q_i x2), (3, q_i x3), (4, q_i s0)]) rfl ?_
      exact bk_L_areAnswers_84 hK hR hF
    · have hF := if_t hF hc
      refine aw_sub [1, 2, 3, 4, 0] (lv' := [(0, q_r 0), (1, q_i x1), (2, q_i x2), (3, q_i x3), (4, q_i s0)]) rfl ?_
      exact bk_L_areAnswers_79 hK hR hF
def B_L_areAnswers_66 (N : Nat) (m : Mem) (x1 : Int32) (x2 : Int32) (x3 : Int32) : Option (Int32 × Mem) :=
  B_L_areAnswers_67 N m x1 x2 x3 (0 : Int32)
set_option maxRecDepth 100000 in
set_option maxHeartbeats 4000000 in
theorem bk_L_areAnswers_66 {N : Nat} {K : KT} {m' : Mem} {r : Int32} (hK : KOK K cL_areAnswers 10 RL wsL_areAnswers 8 0 143) (hR : KRet K (some .boolean) (some r) m') {m : Mem} {x1 : Int32} {x2 : Int32} {x3 : Int32} (hF : B_L_areAnswers_66 N m x1 x2 x3 = some (r, m')) : AW K 0 66 [(0, q_r 0), (1, q_i x1), (2, q_i x2), (3, q_i x3)] [] m := by
  unfold B_L_areAnswers_66 at hF
  refine aw_iconst hK (0) rfl dL_areAnswers_66 ?_
  refine aw_sub [0, 1, 2, 3] (lv' := [(0, q_r 0), (1, q_i x1), (2, q_i x2), (3, q_i x3)]) rfl ?_
  exact bk_L_areAnswers_67 hK hR hF
def B_L_areAnswers_59 (N : Nat) (m : Mem) (x1 : Int32) (x2 : Int32) (x3 : Int32) (s0 : Int32) (s1 : Int32) : Option (Int32 × Mem) :=
  if s1 = s0 then (
    B_L_areAnswers_67 N m x1 x2 x3 (1 : Int32)
  ) else (
    B_L_areAnswers_66 N m x1 x2 x3
  )
set_option maxRecDepth 100000 in
set_option maxHeartbeats 4000000 in
theorem bk_L_areAnswers_59 {N : Nat} {K : KT} {m' : Mem} {r : Int32} (hK : KOK K cL_areAnswers 10 RL wsL_areAnswers 8 0 143) (hR : KRet K (some .boolean) (some r) m') {m : Mem} {x1 : Int32} {x2 : Int32} {x3 : Int32} {s0 : Int32} {s1 : Int32} (hF : B_L_areAnswers_59 N m x1 x2 x3 s0 s1 = some (r, m')) : AW K 0 59 [(0, q_r 0), (1, q_i x1), (2, q_i x2), (3, q_i x3)] [q_i s0, q_i s1] m := by
  unfold B_L_areAnswers_59 at hF
  refine aw_icmp_ne hK 66 rfl dL_areAnswers_59 (fun hc => ?_) (fun hc => ?_)
  · have hF := if_f hF hc
    refine aw_sub [0, 1, 2, 3] (lv' := [(0, q_r 0), (1, q_i x1), (2, q_i x2), (3, q_i x3)]) rfl ?_
    exact bk_L_areAnswers_66 hK hR hF
  · have hF := if_t hF hc
    refine aw_iconst hK (1) rfl dL_areAnswers_62 ?_
    refine aw_goto hK 67 rfl dL_areAnswers_63 ?_
    refine aw_sub [0, 1, 2, 3] (lv' := [(0, q_r 0), (1, q_i x1), (2, q_i x2), (3, q_i x3)]) rfl ?_
    exact bk_L_areAnswers_67 hK hR hF
def B_L_areAnswers_43 (N : Nat) (m : Mem) (x1 : Int32) (x2 : Int32) (x3 : Int32) (s0 : Int32) : Option (Int32 × Mem) :=
  calL (F_X7_best N m x1 x2 (0 : Int32)) fun r9 m8 =>
  if r9 = (-1 : Int32) then (
    B_L_areAnswers_59 N m8 x1 x2 x3 (1 : Int32) s0
  ) else (
    B_L_areAnswers_59 N m8 x1 x2 x3 (0 : Int32) s0
  )
set_option maxRecDepth 100000 in
set_option maxHeartbeats 4000000 in
theorem bk_L_areAnswers_43 {N : Nat} {K : KT} {m' : Mem} {r : Int32} (hK : KOK K cL_areAnswers 10 RL wsL_areAnswers 8 0 143) (hR : KRet K (some .boolean) (some r) m') {m : Mem} {x1 : Int32} {x2 : Int32} {x3 : Int32} {s0 : Int32} (hF : B_L_areAnswers_43 N m x1 x2 x3 s0 = some (r, m')) : AW K 0 43 [(0, q_r 0), (1, q_i x1), (2, q_i x2), (3, q_i x3)] [q_i s0] m := by
  unfold B_L_areAnswers_43 at hF
  refine aw_aload_n hK 0 rfl dL_areAnswers_43 ?_
  refine aw_iload_n hK 1 rfl dL_areAnswers_44 ?_
  refine aw_iload_n hK 2 rfl dL_areAnswers_45 ?_
  refine aw_iconst hK (0) rfl dL_areAnswers_46 ?_
  obtain ⟨r9, m8, h7, hF⟩ := calL_some hF
  refine aw_cv hK 7 (as := [q_i x1, q_i x2, q_i (0 : Int32)]) (trN_X7_best h7) gL_areAnswers_X7_best rfl rfl rfl (by decide) (na := 3) (by decide +kernel) rfl ⟨by decide, by decide⟩ (Nat.zero_le _) (Nat.le_of_ble_eq_true rfl) dL_areAnswers_47 ?_
  refine aw_iconst hK (-1) rfl dL_areAnswers_50 ?_
  refine aw_icmp_ne hK 58 rfl dL_areAnswers_51 (fun hc => ?_) (fun hc => ?_)
  · have hF := if_f hF hc
    refine aw_iconst hK (0) rfl dL_areAnswers_58 ?_
    refine aw_sub [0, 1, 2, 3] (lv' := [(0, q_r 0), (1, q_i x1), (2, q_i x2), (3, q_i x3)]) rfl ?_
    exact bk_L_areAnswers_59 hK hR hF
  · have hF := if_t hF hc
    refine aw_iconst hK (1) rfl dL_areAnswers_54 ?_
    refine aw_goto hK 59 rfl dL_areAnswers_55 ?_
    refine aw_sub [0, 1, 2, 3] (lv' := [(0, q_r 0), (1, q_i x1), (2, q_i x2), (3, q_i x3)]) rfl ?_
    exact bk_L_areAnswers_59 hK hR hF
def B_L_areAnswers_31 (N : Nat) (m : Mem) (x1 : Int32) (x2 : Int32) (x3 : Int32) (s0 : Int32) (s1 : Int32) : Option (Int32 × Mem) :=
  if s1 = s0 then (
    if x3 = (0 : Int32) then (
      B_L_areAnswers_43 N m x1 x2 x3 (1 : Int32)
    ) else (
      B_L_areAnswers_43 N m x1 x2 x3 (0 : Int32)
    )
  ) else (
    B_L_areAnswers_66 N m x1 x2 x3
  )
set_option maxRecDepth 100000 in
set_option maxHeartbeats 4000000 in
theorem bk_L_areAnswers_31 {N : Nat} {K : KT} {m' : Mem} {r : Int32} (hK : KOK K cL_areAnswers 10 RL wsL_areAnswers 8 0 143) (hR : KRet K (some .boolean) (some r) m') {m : Mem} {x1 : Int32} {x2 : Int32} {x3 : Int32} {s0 : Int32} {s1 : Int32} (hF : B_L_areAnswers_31 N m x1 x2 x3 s0 s1 = some (r, m')) : AW K 0 31 [(0, q_r 0), (1, q_i x1), (2, q_i x2), (3, q_i x3)] [q_i s0, q_i s1] m := by
  unfold B_L_areAnswers_31 at hF
  refine aw_icmp_ne hK 66 rfl dL_areAnswers_31 (fun hc => ?_) (fun hc => ?_)
  · have hF := if_f hF hc
    refine aw_sub [0, 1, 2, 3] (lv' := [(0, q_r 0), (1, q_i x1), (2, q_i x2), (3, q_i x3)]) rfl ?_
    exact bk_L_areAnswers_66 hK hR hF
  · have hF := if_t hF hc
    refine aw_iload_n hK 3 rfl dL_areAnswers_34 ?_
    refine aw_if_ne hK 42 rfl dL_areAnswers_35 (fun hc => ?_) (fun hc => ?_)
    · have hF := if_f hF hc
      refine aw_iconst hK (0) rfl dL_areAnswers_42 ?_
      refine aw_sub [0, 1, 2, 3] (lv' := [(0, q_r 0), (1, q_i x1), (2, q_i x2), (3, q_i x3)]) rfl ?_
      exact bk_L_areAnswers_43 hK hR hF
    · have hF := if_t hF hc
      refine aw_iconst hK (1) rfl dL_areAnswers_38 ?_
      refine aw_goto hK 43 rfl dL_areAnswers_39 ?_
      refine aw_sub [0, 1, 2, 3] (lv' := [(0, q_r 0), (1, q_i x1), (2, q_i x2), (3, q_i x3)]) rfl ?_
      exact bk_L_areAnswers_43 hK hR hF
def B_L_areAnswers_16 (N : Nat) (m : Mem) (x1 : Int32) (x2 : Int32) (x3 : Int32) (s0 : Int32) : Option (Int32 × Mem) :=
  calL (F_X7_cost N m x1 x2) fun r6 m5 =>
  if r6 = (-1 : Int32) then (
    B_L_areAnswers_31 N m5 x1 x2 x3 (1 : Int32) s0
  ) else (
    B_L_areAnswers_31 N m5 x1 x2 x3 (0 : Int32) s0
  )
set_option maxRecDepth 100000 in
set_option maxHeartbeats 4000000 in
theorem bk_L_areAnswers_16 {N : Nat} {K : KT} {m' : Mem} {r : Int32} (hK : KOK K cL_areAnswers 10 RL wsL_areAnswers 8 0 143) (hR : KRet K (some .boolean) (some r) m') {m : Mem} {x1 : Int32} {x2 : Int32} {x3 : Int32} {s0 : Int32} (hF : B_L_areAnswers_16 N m x1 x2 x3 s0 = some (r, m')) : AW K 0 16 [(0, q_r 0), (1, q_i x1), (2, q_i x2), (3, q_i x3)] [q_i s0] m := by
  unfold B_L_areAnswers_16 at hF
  refine aw_aload_n hK 0 rfl dL_areAnswers_16 ?_
  refine aw_iload_n hK 1 rfl dL_areAnswers_17 ?_
  refine aw_iload_n hK 2 rfl dL_areAnswers_18 ?_
  obtain ⟨r6, m5, h4, hF⟩ := calL_some hF
  refine aw_cv hK 7 (as := [q_i x1, q_i x2]) (trN_X7_cost h4) gL_areAnswers_X7_cost rfl rfl rfl (by decide) (na := 2) (by decide +kernel) rfl ⟨by decide, by decide⟩ (Nat.zero_le _) (Nat.le_of_ble_eq_true rfl) dL_areAnswers_19 ?_
  refine aw_iconst hK (-1) rfl dL_areAnswers_22 ?_
  refine aw_icmp_ne hK 30 rfl dL_areAnswers_23 (fun hc => ?_) (fun hc => ?_)
  · have hF := if_f hF hc
    refine aw_iconst hK (0) rfl dL_areAnswers_30 ?_
    refine aw_sub [0, 1, 2, 3] (lv' := [(0, q_r 0), (1, q_i x1), (2, q_i x2), (3, q_i x3)]) rfl ?_
    exact bk_L_areAnswers_31 hK hR hF
  · have hF := if_t hF hc
    refine aw_iconst hK (1) rfl dL_areAnswers_26 ?_
    refine aw_goto hK 31 rfl dL_areAnswers_27 ?_
    refine aw_sub [0, 1, 2, 3] (lv' := [(0, q_r 0), (1, q_i x1), (2, q_i x2), (3, q_i x3)]) rfl ?_
    exact bk_L_areAnswers_31 hK hR hF
def F_L_areAnswers (N : Nat) (m : Mem) (x1 : Int32) (x2 : Int32) : Option (Int32 × Mem) :=
  calL (F_X7_answers N m x1 x2) fun r3 m2 =>
  if r3 = (0 : Int32) then (
    B_L_areAnswers_16 N m2 x1 x2 r3 (1 : Int32)
  ) else (
    B_L_areAnswers_16 N m2 x1 x2 r3 (0 : Int32)
  )
set_option maxRecDepth 100000 in
set_option maxHeartbeats 4000000 in
theorem tr_L_areAnswers {N : Nat} {m m' : Mem} {r : Int32} {x1 : Int32} {x2 : Int32} (hF : F_L_areAnswers N m x1 x2 = some (r, m')) : Tr yL_areAnswers wsL_areAnswers 8 143 [q_r 0, q_i x1, q_i x2] m (some r) m' := by
  refine tr_of (bytes := cL_areAnswers) (maxL := 10) (ret := (some .boolean)) (by decide) rfl (Nat.le_of_ble_eq_true rfl) (fun K hK hR => ?_)
  have hK : KOK K cL_areAnswers 10 RL wsL_areAnswers 8 0 143 := hK
  show AW K 0 0 [(0, q_r 0), (1, q_i x1), (2, q_i x2)] [] m
  unfold F_L_areAnswers at hF
  refine aw_aload_n hK 0 rfl dL_areAnswers_0 ?_
  refine aw_iload_n hK 1 rfl dL_areAnswers_1 ?_
  refine aw_iload_n hK 2 rfl dL_areAnswers_2 ?_
  obtain ⟨r3, m2, h1, hF⟩ := calL_some hF
  refine aw_cv hK 7 (as := [q_i x1, q_i x2]) (trN_X7_answers h1) gL_areAnswers_X7_answers rfl rfl rfl (by decide) (na := 2) (by decide +kernel) rfl ⟨by decide, by decide⟩ (Nat.zero_le _) (Nat.le_of_ble_eq_true rfl) dL_areAnswers_3 ?_
  refine aw_istore_n hK [(3, q_i r3), (0, q_r 0), (1, q_i x1), (2, q_i x2)] (by decide) rfl dL_areAnswers_6 ?_
  refine aw_iload_n hK 0 rfl dL_areAnswers_7 ?_
  refine aw_if_ne hK 15 rfl dL_areAnswers_8 (fun hc => ?_) (fun hc => ?_)
  · have hF := if_f hF hc
    refine aw_iconst hK (0) rfl dL_areAnswers_15 ?_
    refine aw_sub [1, 2, 3, 0] (lv' := [(0, q_r 0), (1, q_i x1), (2, q_i x2), (3, q_i r3)]) rfl ?_
    exact bk_L_areAnswers_16 hK hR hF
  · have hF := if_t hF hc
    refine aw_iconst hK (1) rfl dL_areAnswers_11 ?_
    refine aw_goto hK 16 rfl dL_areAnswers_12 ?_
    refine aw_sub [1, 2, 3, 0] (lv' := [(0, q_r 0), (1, q_i x1), (2, q_i x2), (3, q_i r3)]) rfl ?_
    exact bk_L_areAnswers_16 hK hR hF