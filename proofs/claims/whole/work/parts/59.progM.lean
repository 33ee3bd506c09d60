def B_X8_goesChanged_270 (N : Nat) (rec_213 : Mem → Int32 → Int32 → Option (Int32 × Mem)) (m : Mem) (x4 : Int32) (s0 : Int32) : Option (Int32 × Mem) :=
  bnd (x4 + (1 : Int32)) fun y35 =>
  rec_213 m s0 y35
set_option maxRecDepth 100000 in
set_option maxHeartbeats 4000000 in
theorem bk_X8_goesChanged_270 {N : Nat} {K : KT} {m' : Mem} {rec_213 : Mem → Int32 → Int32 → Option (Int32 × Mem)} {r : Int32} (hK : KOK K cX8_goesChanged 6 RX8 wsX8_goesChanged 1 0 22) (hR : KRet K (some .int) (some r) m') (hrec_213 : ∀ {m : Mem} {x3 : Int32} {x4 : Int32}, rec_213 m x3 x4 = some (r, m') → AW K 0 213 [(0, q_r 70), (3, q_i x3), (4, q_i x4)] [] m) {m : Mem} {x4 : Int32} {s0 : Int32} (hF : B_X8_goesChanged_270 N rec_213 m x4 s0 = some (r, m')) : AW K 0 270 [(0, q_r 70), (4, q_i x4)] [q_i s0] m := by
  unfold B_X8_goesChanged_270 at hF
  refine aw_istore_n hK [(3, q_i s0), (0, q_r 70), (4, q_i x4)] (by decide) rfl dX8_goesChanged_270 ?_
  obtain ⟨y35, hy35, hF⟩ := bnd_some hF
  refine aw_iinc hK (cz := 1) 2 [(4, q_i y35), (3, q_i s0), (0, q_r 70)] (by decide) rfl rfl hy35 rfl dX8_goesChanged_271 ?_
  refine aw_goto hK 213 rfl dX8_goesChanged_274 ?_
  refine aw_sub [2, 1, 0] (lv' := [(0, q_r 70), (3, q_i s0), (4, q_i y35)]) rfl ?_
  exact hrec_213 hF
def B_X8_goesChanged_247 (N : Nat) (rec_213 : Mem → Int32 → Int32 → Option (Int32 × Mem)) (m : Mem) (x3 : Int32) (x4 : Int32) : Option (Int32 × Mem) :=
  B_X8_goesChanged_270 N rec_213 m x4 x3
set_option maxRecDepth 100000 in
set_option maxHeartbeats 4000000 in
theorem bk_X8_goesChanged_247 {N : Nat} {K : KT} {m' : Mem} {rec_213 : Mem → Int32 → Int32 → Option (Int32 × Mem)} {r : Int32} (hK : KOK K cX8_goesChanged 6 RX8 wsX8_goesChanged 1 0 22) (hR : KRet K (some .int) (some r) m') (hrec_213 : ∀ {m : Mem} {x3 : Int32} {x4 : Int32}, rec_213 m x3 x4 = some (r, m') → AW K 0 213 [(0, q_r 70), (3, q_i x3), (4, q_i x4)] [] m) {m : Mem} {x3 : Int32} {x4 : Int32} (hF : B_X8_goesChanged_247 N rec_213 m x3 x4 = some (r, m')) : AW K 0 247 [(0, q_r 70), (3, q_i x3), (4, q_i x4)] [] m := by
  unfold B_X8_goesChanged_247 at hF
  refine aw_iload_n hK 1 rfl dX8_goesChanged_247 ?_
  refine aw_goto hK 270 rfl dX8_goesChanged_248 ?_
  refine aw_sub [0, 2] (lv' := [(0, q_r 70), (4, q_i x4)]) rfl ?_
  exact bk_X8_goesChanged_270 hK hR hrec_213 hF
def S_X8_goesChanged_213 (N : Nat) (rec_213 : Mem → Int32 → Int32 → Option (Int32 × Mem)) (m : Mem) (x3 : Int32) (x4 : Int32) : Option (Int32 × Mem) :=
  if (288 : Int32) ≤ x4 then (
    some (x3, m)
  ) else (
    gd (inb x4 (alen 101)) <|
    if (m 101 (ix x4)) = (2000000000 : Int32) then (
      B_X8_goesChanged_247 N rec_213 m x3 x4
    ) else (
      gd (inb x4 (alen 99)) <|
      if (m 99 (ix x4)) = (2000000000 : Int32) then (
        B_X8_goesChanged_247 N rec_213 m x3 x4
      ) else (
        gd (inb x4 (alen 101)) <|
        gd (inb x4 (alen 99)) <|
        B_X8_goesChanged_270 N rec_213 m x4 (P_X8_lesser x3 ((m 101 (ix x4)) + (m 99 (ix x4))))
      )
    )
  )
def L_X8_goesChanged_213 (N : Nat) : Nat → Mem → Int32 → Int32 → Option (Int32 × Mem)
  | 0 => fun _ _ _ => none
  | f + 1 => S_X8_goesChanged_213 N (L_X8_goesChanged_213 N f)
set_option maxRecDepth 100000 in
set_option maxHeartbeats 4000000 in
theorem lp_X8_goesChanged_213 {N : Nat} {K : KT} {m' : Mem} {r : Int32} (hK : KOK K cX8_goesChanged 6 RX8 wsX8_goesChanged 1 0 22) (hR : KRet K (some .int) (some r) m') : ∀ (f : Nat) {m : Mem} {x3 : Int32} {x4 : Int32}, L_X8_goesChanged_213 N f m x3 x4 = some (r, m') → AW K 0 213 [(0, q_r 70), (3, q_i x3), (4, q_i x4)] [] m := by
  intro f
  induction f with
  | zero => intro m x3 x4 hF; cases hF
  | succ f hrec_213 =>
    intro m x3 x4 hF
    have hF : S_X8_goesChanged_213 N (L_X8_goesChanged_213 N f) m x3 x4 = some (r, m') := hF
    unfold S_X8_goesChanged_213 at hF
    refine aw_iload hK 2 rfl dX8_goesChanged_213 ?_
    refine aw_sipush hK (288) rfl dX8_goesChanged_215 ?_
    refine aw_icmp_ge hK 277 rfl dX8_goesChanged_218 (fun hc => ?_) (fun hc => ?_)
    · have hF := if_t hF hc
      refine aw_iload_n hK 1 rfl dX8_goesChanged_277 ?_
      obtain ⟨rfl, rfl⟩ := so_inj hF
      exact aw_iret hK hR rfl dX8_goesChanged_278
    · have hF := if_f hF hc
      refine aw_aload_n hK 0 rfl dX8_goesChanged_221 ?_
      refine gf_8_38 hK rfl (101) rfl (List.mem_of_getElem? (i := 1) rfl) dX8_goesChanged_222 ?_
      refine aw_iload hK 2 rfl dX8_goesChanged_225 ?_
      obtain ⟨g31, hF⟩ := gd_some hF
      refine aw_iald hK rfl g31 dX8_goesChanged_227 ?_
      refine aw_ldc_w hK (2000000000) (List.mem_of_getElem? (i := 2) rfl) dX8_goesChanged_228 ?_
      refine aw_icmp_eq hK 247 rfl dX8_goesChanged_231 (fun hc => ?_) (fun hc => ?_)
      · have hF := if_t hF hc
        refine aw_sub [0, 1, 2] (lv' := [(0, q_r 70), (3, q_i x3), (4, q_i x4)]) rfl ?_
        exact bk_X8_goesChanged_247 hK hR hrec_213 hF
      · have hF := if_f hF hc
        refine aw_aload_n hK 0 rfl dX8_goesChanged_234 ?_
        refine gf_8_36 hK rfl (99) rfl (List.mem_of_getElem? (i := 9) rfl) dX8_goesChanged_235 ?_
        refine aw_iload hK 2 rfl dX8_goesChanged_238 ?_
        obtain ⟨g32, hF⟩ := gd_some hF
        refine aw_iald hK rfl g32 dX8_goesChanged_240 ?_
        refine aw_ldc_w hK (2000000000) (List.mem_of_getElem? (i := 2) rfl) dX8_goesChanged_241 ?_
        refine aw_icmp_ne hK 251 rfl dX8_goesChanged_244 (fun hc => ?_) (fun hc => ?_)
        · have hF := if_f hF hc
          refine aw_iload_n hK 1 rfl dX8_goesChanged_251 ?_
          refine aw_aload_n hK 0 rfl dX8_goesChanged_252 ?_
          refine gf_8_38 hK rfl (101) rfl (List.mem_of_getElem? (i := 1) rfl) dX8_goesChanged_253 ?_
          refine aw_iload hK 2 rfl dX8_goesChanged_256 ?_
          obtain ⟨g33, hF⟩ := gd_some hF
          refine aw_iald hK rfl g33 dX8_goesChanged_258 ?_
          refine aw_aload_n hK 0 rfl dX8_goesChanged_259 ?_
          refine gf_8_36 hK rfl (99) rfl (List.mem_of_getElem? (i := 9) rfl) dX8_goesChanged_260 ?_
          refine aw_iload hK 2 rfl dX8_goesChanged_263 ?_
          obtain ⟨g34, hF⟩ := gd_some hF
          refine aw_iald hK rfl g34 dX8_goesChanged_265 ?_
          refine aw_iadd hK dX8_goesChanged_266 ?_
          refine aw_cs hK (as := [q_i x3, q_i ((m 101 (ix x4)) + (m 99 (ix x4)))]) (trp_X8_lesser x3 ((m 101 (ix x4)) + (m 99 (ix x4))) _) gX8_goesChanged_X8_lesser rfl (na := 2) (by decide +kernel) rfl ⟨by decide, by decide⟩ (Nat.zero_le _) (Nat.le_of_ble_eq_true rfl) dX8_goesChanged_267 ?_
          refine aw_sub [0, 2] (lv' := [(0, q_r 70), (4, q_i x4)]) rfl ?_
          exact bk_X8_goesChanged_270 hK hR hrec_213 hF
        · have hF := if_t hF hc
          refine aw_sub [0, 1, 2] (lv' := [(0, q_r 70), (3, q_i x3), (4, q_i x4)]) rfl ?_
          exact bk_X8_goesChanged_247 hK hR hrec_213 hF
def B_X8_goesChanged_200 (N : Nat) (rec_30 : Mem → Int32 → Int32 → Int32 → Option (Int32 × Mem)) (m : Mem) (x1 : Int32) (x2 : Int32) (x3 : Int32) : Option (Int32 × Mem) :=
  bnd (x3 + (1 : Int32)) fun y30 =>
  rec_30 m x1 x2 y30
set_option maxRecDepth 100000 in
set_option maxHeartbeats 4000000 in
theorem bk_X8_goesChanged_200 {N : Nat} {K : KT} {m' : Mem} {rec_30 : Mem → Int32 → Int32 → Int32 → Option (Int32 × Mem)} {r : Int32} (hK : KOK K cX8_goesChanged 6 RX8 wsX8_goesChanged 1 0 22) (hR : KRet K (some .int) (some r) m') (hrec_30 : ∀ {m : Mem} {x1 : Int32} {x2 : Int32} {x3 : Int32}, rec_30 m x1 x2 x3 = some (r, m') → AW K 0 30 [(0, q_r 70), (1, q_i x1), (2, q_i x2), (3, q_i x3)] [] m) {m : Mem} {x1 : Int32} {x2 : Int32} {x3 : Int32} (hF : B_X8_goesChanged_200 N rec_30 m x1 x2 x3 = some (r, m')) : AW K 0 200 [(0, q_r 70), (1, q_i x1), (2, q_i x2), (3, q_i x3)] [] m := by
  unfold B_X8_goesChanged_200 at hF
  obtain ⟨y30, hy30, hF⟩ := bnd_some hF
  refine aw_iinc hK (cz := 1) 3 [(3, q_i y30), (0, q_r 70), (1, q_i x1), (2, q_i x2)] (by decide) rfl rfl hy30 rfl dX8_goesChanged_200 ?_
  refine aw_goto hK 30 rfl dX8_goesChanged_203 ?_
  refine aw_sub [1, 2, 3, 0] (lv' := [(0, q_r 70), (1, q_i x1), (2, q_i x2), (3, q_i y30)]) rfl ?_
  exact hrec_30 hF
def B_X8_goesChanged_194 (N : Nat) (rec_30 : Mem → Int32 → Int32 → Int32 → Option (Int32 × Mem)) (rec_49 : Mem → Int32 → Int32 → Int32 → Int32 → Option (Int32 × Mem)) (m : Mem) (x1 : Int32) (x2 : Int32) (x3 : Int32) (x4 : Int32) : Option (Int32 × Mem) :=
  bnd (x4 + (1 : Int32)) fun y29 =>
  rec_49 m x1 x2 x3 y29
set_option maxRecDepth 100000 in
set_option maxHeartbeats 4000000 in
theorem bk_X8_goesChanged_194 {N : Nat} {K : KT} {m' : Mem} {rec_30 : Mem → Int32 → Int32 → Int32 → Option (Int32 × Mem)} {rec_49 : Mem → Int32 → Int32 → Int32 → Int32 → Option (Int32 × Mem)} {r : Int32} (hK : KOK K cX8_goesChanged 6 RX8 wsX8_goesChanged 1 0 22) (hR : KRet K (some .int) (some r) m') (hrec_30 : ∀ {m : Mem} {x1 : Int32} {x2 : Int32} {x3 : Int32}, rec_30 m x1 x2 x3 = some (r, m') → AW K 0 30 [(0, q_r 70), (1, q_i x1), (2, q_i x2), (3, q_i x3)] [] m) (hrec_49 : ∀ {m : Mem} {x1 : Int32} {x2 : Int32} {x3 : Int32} {x4 : Int32}, rec_49 m x1 x2 x3 x4 = some (r, m') → AW K 0 49 [(0, q_r 70), (1, q_i x1), (2, q_i x2), (3, q_i x3), (4, q_i x4)] [] m) {m : Mem} {x1 : Int32} {x2 : Int32} {x3 : Int32} {x4 : Int32} (hF : B_X8_goesChanged_194 N rec_30 rec_49 m x1 x2 x3 x4 = some (r, m')) : AW K 0 194 [(0, q_r 70), (1, q_i x1), (2, q_i x2), (3, q_i x3), (4, q_i x4)] [] m := by
  unfold B_X8_goesChanged_194 at hF
  obtain ⟨y29, hy29, hF⟩ := bnd_some hF
  refine aw_iinc hK (cz := 1) 4 [(4, q_i y29), (0, q_r 70), (1, q_i x1), (2, q_i x2), (3, q_i x3)] (by decide) rfl rfl hy29 rfl dX8_goesChanged_194 ?_
  refine aw_goto hK 49 rfl dX8_goesChanged_197 ?_
  refine aw_sub [1, 2, 3, 4, 0] (lv' := [(0, q_r 70), (1, q_i x1), (2, q_i x2), (3, q_i x3), (4, q_i y29)]) rfl ?_
  exact hrec_49 hF
def S_X8_goesChanged_49 (N : Nat) (rec_30 : Mem → Int32 → Int32 → Int32 → Option (Int32 × Mem)) (rec_49 : Mem → Int32 → Int32 → Int32 → Int32 → Option (Int32 × Mem)) (m : Mem) (x1 : Int32) (x2 : Int32) (x3 : Int32) (x4 : Int32) : Option (Int32 × Mem) :=
  if (m 70 2) < x4 then (
    B_X8_goesChanged_200 N rec_30 m x1 x2 x3
  ) else (
    gd (inb x3 (alen 76)) <|
    if (m 76 (ix x3)) = x2 then (
      gd (inb x3 (alen 75)) <|
      gd (inb (((32 : Int32) * x4) + (m 75 (ix x3))) (alen 100)) <|
      bnd (m 100 (ix (((32 : Int32) * x4) + (m 75 (ix x3))))) fun y9 =>
      gd (inb x3 (alen 79)) <|
      gd (inb x3 (alen 79)) <|
      gd (inb (((32 : Int32) * x4) + (m 79 (ix x3))) (alen 101)) <|
      cal (F_X8_plus N m y9 (1 : Int32)) fun r15 m14 =>
      gd (inb (((32 : Int32) * x4) + (m 79 (ix x3))) (alen 101)) <|
      bnd (mup m14 101 (ix (((32 : Int32) * x4) + (m 79 (ix x3)))) (P_X8_lesser (m 101 (ix (((32 : Int32) * x4) + (m 79 (ix x3))))) r15)) fun m17 =>
      if (m17 70 2) ≤ x4 then (
        B_X8_goesChanged_194 N rec_30 rec_49 m17 x1 x2 x3 x4
      ) else (
        gd (inb x3 (alen 79)) <|
        gd (inb x3 (alen 79)) <|
        gd (inb (((32 : Int32) * (x4 + (1 : Int32))) + (m17 79 (ix x3))) (alen 101)) <|
        cal (F_X8_change N m17 x3 x4) fun r23 m22 =>
        cal (F_X8_plus N m22 y9 r23) fun r26 m25 =>
        gd (inb (((32 : Int32) * (x4 + (1 : Int32))) + (m17 79 (ix x3))) (alen 101)) <|
        bnd (mup m25 101 (ix (((32 : Int32) * (x4 + (1 : Int32))) + (m17 79 (ix x3)))) (P_X8_lesser (m17 101 (ix (((32 : Int32) * (x4 + (1 : Int32))) + (m17 79 (ix x3))))) r26)) fun m28 =>
        B_X8_goesChanged_194 N rec_30 rec_49 m28 x1 x2 x3 x4
      )
    ) else (
      B_X8_goesChanged_200 N rec_30 m x1 x2 x3
    )
  )
def L_X8_goesChanged_49 (N : Nat) (rec_30 : Mem → Int32 → Int32 → Int32 → Option (Int32 × Mem)) : Nat → Mem → Int32 → Int32 → Int32 → Int32 → Option (Int32 × Mem)
  | 0 => fun _ _ _ _ _ => none
  | f + 1 => S_X8_goesChanged_49 N rec_30 (L_X8_goesChanged_49 N rec_30 f)
set_option maxRecDepth 100000 in
set_option maxHeartbeats 4000000 in
theorem lp_X8_goesChanged_49 {N : Nat} {K : KT} {m' : Mem} {rec_30 : Mem → Int32 → Int32 → Int32 → Option (Int32 × Mem)} {r : Int32} (hK : KOK K cX8_goesChanged 6 RX8 wsX8_goesChanged 1 0 22) (hR : KRet K (some .int) (some r) m') (hrec_30 : ∀ {m : Mem} {x1 : Int32} {x2 : Int32} {x3 : Int32}, rec_30 m x1 x2 x3 = some (r, m') → AW K 0 30 [(0, q_r 70), (1, q_i x1), (2, q_i x2), (3, q_i x3)] [] m) : ∀ (f : Nat) {m : Mem} {x1 : Int32} {x2 : Int32} {x3 : Int32} {x4 : Int32}, L_X8_goesChanged_49 N rec_30 f m x1 x2 x3 x4 = some (r, m') → AW K 0 49 [(0, q_r 70), (1, q_i x1), (2, q_i x2), (3, q_i x3), (4, q_i x4)] [] m := by
  intro f
  induction f with
  | zero => intro m x1 x2 x3 x4 hF; cases hF
  | succ f hrec_49 =>
    intro m x1 x2 x3 x4 hF
    have hF : S_X8_goesChanged_49 N rec_30 (L_X8_goesChanged_49 N rec_30 f) m x1 x2 x3 x4 = some (r, m') := hF
    unfold S_X8_goesChanged_49 at hF
    refine aw_iload hK 4 rfl dX8_goesChanged_49 ?_
    refine aw_aload_n hK 0 rfl dX8_goesChanged_51 ?_
    refine gf_8_2 hK rfl (List.mem_of_getElem? (i := 4) rfl) dX8_goesChanged_52 ?_
    refine aw_icmp_gt hK 200 rfl dX8_goesChanged_55 (fun hc => ?_) (fun hc => ?_)
    · have hF := if_t hF hc
      refine aw_sub [0, 1, 2, 3] (lv' := [(0, q_r 70), (1, q_i x1), (2, q_i x2), (3, q_i x3)]) rfl ?_
      exact bk_X8_goesChanged_200 hK hR hrec_30 hF
    · have hF := if_f hF hc
      refine aw_aload_n hK 0 rfl dX8_goesChanged_58 ?_
      refine gf_8_7 hK rfl (76) rfl (List.mem_of_getElem? (i := 5) rfl) dX8_goesChanged_59 ?_
      refine aw_iload_n hK 3 rfl dX8_goesChanged_62 ?_
      obtain ⟨g6, hF⟩ := gd_some hF
      refine aw_iald hK rfl g6 dX8_goesChanged_63 ?_
      refine aw_iload_n hK 2 rfl dX8_goesChanged_64 ?_
      refine aw_icmp_ne hK 200 rfl dX8_goesChanged_65 (fun hc => ?_) (fun hc => ?_)
      · have hF := if_f hF hc
        refine aw_sub [0, 1, 2, 3] (lv' := [(0, q_r 70), (1, q_i x1), (2, q_i x2), (3, q_i x3)]) rfl ?_
        exact bk_X8_goesChanged_200 hK hR hrec_30 hF
      · have hF := if_t hF hc
        refine aw_aload_n hK 0 rfl dX8_goesChanged_68 ?_
        refine gf_8_37 hK rfl (100) rfl (List.mem_of_getElem? (i := 6) rfl) dX8_goesChanged_69 ?_
        refine aw_bipush hK (32) rfl dX8_goesChanged_72 ?_
        refine aw_iload hK 4 rfl dX8_goesChanged_74 ?_
        refine aw_imul hK dX8_goesChanged_76 ?_
        refine aw_aload_n hK 0 rfl dX8_goesChanged_77 ?_
        refine gf_8_6 hK rfl (75) rfl (List.mem_of_getElem? (i := 7) rfl) dX8_goesChanged_78 ?_
        refine aw_iload_n hK 3 rfl dX8_goesChanged_81 ?_
        obtain ⟨g7, hF⟩ := gd_some hF
        refine aw_iald hK rfl g7 dX8_goesChanged_82 ?_
        refine aw_iadd hK dX8_goesChanged_83 ?_
        obtain ⟨g8, hF⟩ := gd_some hF
        refine aw_iald hK rfl g8 dX8_goesChanged_84 ?_
        obtain ⟨y9, hy9, hF⟩ := bnd_some hF
        refine aw_nm hy9 ?_
        refine aw_istore hK [(5, q_i y9), (0, q_r 70), (1, q_i x1), (2, q_i x2), (3, q_i x3), (4, q_i x4)] (by decide) rfl dX8_goesChanged_85 ?_
        refine aw_aload_n hK 1 rfl dX8_goesChanged_87 ?_
        refine gf_8_38 hK rfl (101) rfl (List.mem_of_getElem? (i := 1) rfl) dX8_goesChanged_88 ?_
        refine aw_bipush hK (32) rfl dX8_goesChanged_91 ?_
        refine aw_iload hK 5 rfl dX8_goesChanged_93 ?_
        refine aw_imul hK dX8_goesChanged_95 ?_
        refine aw_aload_n hK 1 rfl dX8_goesChanged_96 ?_
        refine gf_8_10 hK rfl (79) rfl (List.mem_of_getElem? (i := 8) rfl) dX8_goesChanged_97 ?_
        refine aw_iload_n hK 4 rfl dX8_goesChanged_100 ?_
        obtain ⟨g10, hF⟩ := gd_some hF
        refine aw_iald hK rfl g10 dX8_goesChanged_101 ?_
        refine aw_iadd hK dX8_goesChanged_102 ?_
        refine aw_aload_n hK 1 rfl dX8_goesChanged_103 ?_
        refine gf_8_38 hK rfl (101) rfl (List.mem_of_getElem? (i := 1) rfl) dX8_goesChanged_104 ?_
        refine aw_bipush hK (32) rfl dX8_goesChanged_107 ?_
        refine aw_iload hK 5 rfl dX8_goesChanged_109 ?_
        refine aw_imul hK dX8_goesChanged_111 ?_
        refine aw_aload_n hK 1 rfl dX8_goesChanged_112 ?_
        refine gf_8_10 hK rfl (79) rfl (List.mem_of_getElem? (i := 8) rfl) dX8_goesChanged_113 ?_
        refine aw_iload_n hK 4 rfl dX8_goesChanged_116 ?_
        obtain ⟨g11, hF⟩ := gd_some hF
        refine aw_iald hK rfl g11 dX8_goesChanged_117 ?_
        refine aw_iadd hK dX8_goesChanged_118 ?_
        obtain ⟨g12, hF⟩ := gd_some hF
        refine aw_iald hK rfl g12 dX8_goesChanged_119 ?_
        refine aw_aload_n hK 1 rfl dX8_goesChanged_120 ?_
        refine aw_iload hK 0 rfl dX8_goesChanged_121 ?_
        refine aw_iconst hK (1) rfl dX8_goesChanged_123 ?_
        obtain ⟨r15, m14, h13, hF⟩ := cal_some hF
        refine aw_cv hK 8 (as := [q_i y9, q_i (1 : Int32)]) (tr_X8_plus h13) gX8_goesChanged_X8_plus rfl rfl rfl (by decide) (na := 2) (by decide +kernel) rfl ⟨by decide, by decide⟩ (Nat.zero_le _) (Nat.le_of_ble_eq_true rfl) dX8_goesChanged_124 ?_
        refine aw_cs hK (as := [q_i (m 101 (ix (((32 : Int32) * x4) + (m 79 (ix x3))))), q_i r15]) (trp_X8_lesser (m 101 (ix (((32 : Int32) * x4) + (m 79 (ix x3))))) r15 _) gX8_goesChanged_X8_lesser rfl (na := 2) (by decide +kernel) rfl ⟨by decide, by decide⟩ (Nat.zero_le _) (Nat.le_of_ble_eq_true rfl) dX8_goesChanged_127 ?_
        obtain ⟨g16, hF⟩ := gd_some hF
        refine aw_iast hK rfl g16 dX8_goesChanged_130 ?_
        obtain ⟨m17, hm17, hF⟩ := bnd_some hF
        refine aw_mm hm17 ?_
        refine aw_iload hK 5 rfl dX8_goesChanged_131 ?_
        refine aw_aload_n hK 1 rfl dX8_goesChanged_133 ?_
        refine gf_8_2 hK rfl (List.mem_of_getElem? (i := 4) rfl) dX8_goesChanged_134 ?_
        refine aw_icmp_ge hK 194 rfl dX8_goesChanged_137 (fun hc => ?_) (fun hc => ?_)
        · have hF := if_t hF hc
          refine aw_sub [1, 2, 3, 4, 5] (lv' := [(0, q_r 70), (1, q_i x1), (2, q_i x2), (3, q_i x3), (4, q_i x4)]) rfl ?_
          exact bk_X8_goesChanged_194 hK hR hrec_30 hrec_49 hF
        · have hF := if_f hF hc
          refine aw_aload_n hK 1 rfl dX8_goesChanged_140 ?_
          refine gf_8_38 hK rfl (101) rfl (List.mem_of_getElem? (i := 1) rfl) dX8_goesChanged_141 ?_
          refine aw_bipush hK (32) rfl dX8_goesChanged_144 ?_
          refine aw_iload hK 5 rfl dX8_goesChanged_146 ?_
          refine aw_iconst hK (1) rfl dX8_goesChanged_148 ?_
          refine aw_iadd hK dX8_goesChanged_149 ?_
          refine aw_imul hK dX8_goesChanged_150 ?_
          refine aw_aload_n hK 1 rfl dX8_goesChanged_151 ?_
          refine gf_8_10 hK rfl (79) rfl (List.mem_of_getElem? (i := 8) rfl) dX8_goesChanged_152 ?_
          refine aw_iload_n hK 4 rfl dX8_goesChanged_155 ?_
          obtain ⟨g18, hF⟩ := gd_some hF
          refine aw_iald hK rfl g18 dX8_goesChanged_156 ?_
          refine aw_iadd hK dX8_goesChanged_157 ?_
          refine aw_aload_n hK 1 rfl dX8_goesChanged_158 ?_
          refine gf_8_38 hK rfl (101) rfl (List.mem_of_getElem? (i := 1) rfl) dX8_goesChanged_159 ?_
          refine aw_bipush hK (32) rfl dX8_goesChanged_162 ?_
          refine aw_iload hK 5 rfl dX8_goesChanged_164 ?_
          refine aw_iconst hK (1) rfl dX8_goesChanged_166 ?_
          refine aw_iadd hK dX8_goesChanged_167 ?_
          refine aw_imul hK dX8_goesChanged_168 ?_
          refine aw_aload_n hK 1 rfl dX8_goesChanged_169 ?_
          refine gf_8_10 hK rfl (79) rfl (List.mem_of_getElem? (i := 8) rfl) dX8_goesChanged_170 ?_
          refine aw_iload_n hK 4 rfl dX8_goesChanged_173 ?_
          obtain ⟨g19, hF⟩ := gd_some hF
          refine aw_iald hK rfl g19 dX8_goesChanged_174 ?_
          refine aw_iadd hK dX8_goesChanged_175 ?_
          obtain ⟨g20, hF⟩ := gd_some hF
          refine aw_iald hK rfl g20 dX8_goesChanged_176 ?_
          refine aw_aload_n hK 1 rfl dX8_goesChanged_177 ?_
          refine aw_iload hK 0 rfl dX8_goesChanged_178 ?_
          refine aw_aload_n hK 1 rfl dX8_goesChanged_180 ?_
          refine aw_iload_n hK 4 rfl dX8_goesChanged_181 ?_
          refine aw_iload hK 5 rfl dX8_goesChanged_182 ?_
          obtain ⟨r23, m22, h21, hF⟩ := cal_some hF
          refine aw_cv hK 8 (as := [q_i x3, q_i x4]) (tr_X8_change h21) gX8_goesChanged_X8_change rfl rfl rfl (by decide) (na := 2) (by decide +kernel) rfl ⟨by decide, by decide⟩ (Nat.zero_le _) (Nat.le_of_ble_eq_true rfl) dX8_goesChanged_184 ?_
          obtain ⟨r26, m25, h24, hF⟩ := cal_some hF
          refine aw_cv hK 8 (as := [q_i y9, q_i r23]) (tr_X8_plus h24) gX8_goesChanged_X8_plus rfl rfl rfl (by decide) (na := 2) (by decide +kernel) rfl ⟨by decide, by decide⟩ (Nat.zero_le _) (Nat.le_of_ble_eq_true rfl) dX8_goesChanged_187 ?_
          refine aw_cs hK (as := [q_i (m17 101 (ix (((32 : Int32) * (x4 + (1 : Int32))) + (m17 79 (ix x3))))), q_i r26]) (trp_X8_lesser (m17 101 (ix (((32 : Int32) * (x4 + (1 : Int32))) + (m17 79 (ix x3))))) r26 _) gX8_goesChanged_X8_lesser rfl (na := 2) (by decide +kernel) rfl ⟨by decide, by decide⟩ (Nat.zero_le _) (Nat.le_of_ble_eq_true rfl) dX8_goesChanged_190 ?_
          obtain ⟨g27, hF⟩ := gd_some hF
          refine aw_iast hK rfl g27 dX8_goesChanged_193 ?_
          obtain ⟨m28, hm28, hF⟩ := bnd_some hF
          refine aw_mm hm28 ?_
          refine aw_sub [1, 2, 3, 4, 5] (lv' := [(0, q_r 70), (1, q_i x1), (2, q_i x2), (3, q_i x3), (4, q_i x4)]) rfl ?_
          exact bk_X8_goesChanged_194 hK hR hrec_30 hrec_49 hF
def S_X8_goesChanged_30 (N : Nat) (rec_30 : Mem → Int32 → Int32 → Int32 → Option (Int32 × Mem)) (m : Mem) (x1 : Int32) (x2 : Int32) (x3 : Int32) : Option (Int32 × Mem) :=
  gd (inb x1 (alen 74)) <|
  if (((160 : Int32) * x1) + (m 74 (ix x1))) ≤ x3 then (
    L_X8_goesChanged_213 N N m (2000000000 : Int32) (0 : Int32)
  ) else (
    L_X8_goesChanged_49 N rec_30 N m x1 x2 x3 (0 : Int32)
  )
def L_X8_goesChanged_30 (N : Nat) : Nat → Mem → Int32 → Int32 → Int32 → Option (Int32 × Mem)
  | 0 => fun _ _ _ _ => none
  | f + 1 => S_X8_goesChanged_30 N (L_X8_goesChanged_30 N f)
set_option maxRecDepth 100000 in
set_option maxHeartbeats 4000000 in
theorem lp_X8_goesChanged_30 {N : Nat} {K : KT} {m' : Mem} {r : Int32} (hK : KOK K cX8_goesChanged 6 RX8 wsX8_goesChanged 1 0 22) (hR : KRet K (some .int) (some r) m') : ∀ (f : Nat) {m : Mem} {x1 : Int32} {x2 : Int32} {x3 : Int32}, L_X8_goesChanged_30 N f m x1 x2 x3 = some (r, m') → AW K 0 30 [(0, q_r 70), (1, q_i x1), (2, q_i x2), (3, q_i x3)] [] m := by
  intro f
  induction f with
  | zero => intro m x1 x2 x3 hF; cases hF
  | succ f hrec_30 =>
    intro m x1 x2 x3 hF
    have hF : S_X8_goesChanged_30 N (L_X8_goesChanged_30 N f) m x1 x2 x3 = some (r, m') := hF
    unfold S_X8_goesChanged_30 at hF
    refine aw_iload_n hK 3 rfl dX8_goesChanged_30 ?_
    refine aw_sipush hK (160) rfl dX8_goesChanged_31 ?_
    refine aw_iload_n hK 1 rfl dX8_goesChanged_34 ?_
    refine aw_imul hK dX8_goesChanged_35 ?_
    refine aw_aload_n hK 0 rfl dX8_goesChanged_36 ?_
    refine gf_8_5 hK rfl (74) rfl (List.mem_of_getElem? (i := 3) rfl) dX8_goesChanged_37 ?_
    refine aw_iload_n hK 1 rfl dX8_goesChanged_40 ?_
    obtain ⟨g5, hF⟩ := gd_some hF
    refine aw_iald hK rfl g5 dX8_goesChanged_41 ?_
    refine aw_iadd hK dX8_goesChanged_42 ?_
    refine aw_icmp_ge hK 206 rfl dX8_goesChanged_43 (fun hc => ?_) (fun hc => ?_)
    · have hF := if_t hF hc
      refine aw_ldc_w hK (2000000000) (List.mem_of_getElem? (i := 2) rfl) dX8_goesChanged_206 ?_
      refine aw_istore_n hK [(3, q_i (2000000000 : Int32)), (0, q_r 70), (1, q_i x1), (2, q_i x2)] (by decide) rfl dX8_goesChanged_209 ?_
      refine aw_iconst hK (0) rfl dX8_goesChanged_210 ?_
      refine aw_istore hK [(4, q_i (0 : Int32)), (3, q_i (2000000000 : Int32)), (0, q_r 70), (1, q_i x1), (2, q_i x2)] (by decide) rfl dX8_goesChanged_211 ?_
      refine aw_sub [2, 1, 0] (lv' := [(0, q_r 70), (3, q_i (2000000000 : Int32)), (4, q_i (0 : Int32))]) rfl ?_
      exact lp_X8_goesChanged_213 hK hR _ hF
    · have hF := if_f hF hc
      refine aw_iconst hK (0) rfl dX8_goesChanged_46 ?_
      refine aw_istore hK [(4, q_i (0 : Int32)), (0, q_r 70), (1, q_i x1), (2, q_i x2), (3, q_i x3)] (by decide) rfl dX8_goesChanged_47 ?_
      refine aw_sub [1, 2, 3, 4, 0] (lv' := [(0, q_r 70), (1, q_i x1), (2, q_i x2), (3, q_i x3), (4, q_i (0 : Int32))]) rfl ?_
      exact lp_X8_goesChanged_49 hK hR hrec_30 _ hF
def S_X8_goesChanged_2 (N : Nat) (rec_2 : Mem → Int32 → Int32 → Int32 → Option (Int32 × Mem)) (m : Mem) (x1 : Int32) (x2 : Int32) (x3 : Int32) : Option (Int32 × Mem) :=
  if (288 : Int32) ≤ x3 then (
    bnd ((160 : Int32) * x1) fun y1 =>
    L_X8_goesChanged_30 N N m x1 x2 y1
  ) else (
    gd (inb x3 (alen 101)) <|
    bnd (mup m 101 (ix x3) (2000000000 : Int32)) fun m3 =>
    bnd (x3 + (1 : Int32)) fun y4 =>
    rec_2 m3 x1 x2 y4
  )
def L_X8_goesChanged_2 (N : Nat) : Nat → Mem → Int32 → Int32 → Int32 → Option (Int32 × Mem)
  | 0 => fun _ _ _ _ => none
  | f + 1 => S_X8_goesChanged_2 N (L_X8_goesChanged_2 N f)
set_option maxRecDepth 100000 in
set_option maxHeartbeats 4000000 in
theorem lp_X8_goesChanged_2 {N : Nat} {K : KT} {m' : Mem} {r : Int32} (hK : KOK K cX8_goesChanged 6 RX8 wsX8_goesChanged 1 0 22) (hR : KRet K (some .int) (some r) m') : ∀ (f : Nat) {m : Mem} {x1 : Int32} {x2 : Int32} {x3 : Int32}, L_X8_goesChanged_2 N f m x1 x2 x3 = some (r, m') → AW K 0 2 [(0, q_r 70), (1, q_i x1), (2, q_i x2), (3, q_i x3)] [] m := by
  intro f
  induction f with
  | zero => intro m x1 x2 x3 hF; cases hF
  | succ f hrec_2 =>
    intro m x1 x2 x3 hF
    have hF : S_X8_goesChanged_2 N (L_X8_goesChanged_2 N f) m x1 x2 x3 = some (r, m') := hF
    unfold S_X8_goesChanged_2 at hF
    refine aw_iload_n hK 3 rfl dX8_goesChanged_2 ?_
    refine aw_sipush hK (288) rfl dX8_goesChanged_3 ?_
    refine aw_icmp_ge hK 24 rfl dX8_goesChanged_6 (fun hc => ?_) (fun hc => ?_)
    · have hF := if_t hF hc
      refine aw_sipush hK (160) rfl dX8_goesChanged_24 ?_
      refine aw_iload_n hK 1 rfl dX8_goesChanged_27 ?_
      refine aw_imul hK dX8_goesChanged_28 ?_
      obtain ⟨y1, hy1, hF⟩ := bnd_some hF
      refine aw_nm hy1 ?_
      refine aw_istore_n hK [(3, q_i y1), (0, q_r 70), (1, q_i x1), (2, q_i x2)] (by decide) rfl dX8_goesChanged_29 ?_
      refine aw_sub [1, 2, 3, 0] (lv' := [(0, q_r 70), (1, q_i x1), (2, q_i x2), (3, q_i y1)]) rfl ?_
      exact lp_X8_goesChanged_30 hK hR _ hF
    · have hF := if_f hF hc
      refine aw_aload_n hK 0 rfl dX8_goesChanged_9 ?_
      refine gf_8_38 hK rfl (101) rfl (List.mem_of_getElem? (i := 1) rfl) dX8_goesChanged_10 ?_
      refine aw_iload_n hK 3 rfl dX8_goesChanged_13 ?_
      refine aw_ldc_w hK (2000000000) (List.mem_of_getElem? (i := 2) rfl) dX8_goesChanged_14 ?_
      obtain ⟨g2, hF⟩ := gd_some hF
      refine aw_iast hK rfl g2 dX8_goesChanged_17 ?_
      obtain ⟨m3, hm3, hF⟩ := bnd_some hF
      refine aw_mm hm3 ?_
      obtain ⟨y4, hy4, hF⟩ := bnd_some hF
      refine aw_iinc hK (cz := 1) 3 [(3, q_i y4), (0, q_r 70), (1, q_i x1), (2, q_i x2)] (by decide) rfl rfl hy4 rfl dX8_goesChanged_18 ?_
      refine aw_goto hK 2 rfl dX8_goesChanged_21 ?_
      refine aw_sub [1, 2, 3, 0] (lv' := [(0, q_r 70), (1, q_i x1), (2, q_i x2), (3, q_i y4)]) rfl ?_
      exact hrec_2 hF
def F_X8_goesChanged (N : Nat) (m : Mem) (x1 : Int32) (x2 : Int32) : Option (Int32 × Mem) :=
  L_X8_goesChanged_2 N N m x1 x2 (0 : Int32)
set_option maxRecDepth 100000 in
set_option maxHeartbeats 4000000 in
theorem tr_X8_goesChanged {N : Nat} {m m' : Mem} {r : Int32} {x1 : Int32} {x2 : Int32} (hF : F_X8_goesChanged N m x1 x2 = some (r, m')) : Tr yX8_goesChanged wsX8_goesChanged 1 22 [q_r 70, q_i x1, q_i x2] m (some r) m' := by
  refine tr_of (bytes := cX8_goesChanged) (maxL := 6) (ret := (some .int)) (by decide) rfl (Nat.le_of_ble_eq_true rfl) (fun K hK hR => ?_)
  have hK : KOK K cX8_goesChanged 6 RX8 wsX8_goesChanged 1 0 22 := hK
  show AW K 0 0 [(0, q_r 70), (1, q_i x1), (2, q_i x2)] [] m
  unfold F_X8_goesChanged at hF
  refine aw_iconst hK (0) rfl dX8_goesChanged_0 ?_
  refine aw_istore_n hK [(3, q_i (0 : Int32)), (0, q_r 70), (1, q_i x1), (2, q_i x2)] (by decide) rfl dX8_goesChanged_1 ?_
  refine aw_sub [1, 2, 3, 0] (lv' := [(0, q_r 70), (1, q_i x1), (2, q_i x2), (3, q_i (0 : Int32))]) rfl ?_
  exact lp_X8_goesChanged_2 hK hR _ hF
def B_X8_changes_49 (N : Nat) (m : Mem) (s0 : Int32) : Option (Int32 × Mem) :=
  some (s0, m)
set_option maxRecDepth 100000 in
set_option maxHeartbeats 4000000 in
theorem bk_X8_changes_49 {N : Nat} {K : KT} {m' : Mem} {r : Int32} (hK : KOK K cX8_changes 2 RX8 wsX8_changes 2 0 47) (hR : KRet K (some .int) (some r) m') {m : Mem} {s0 : Int32} (hF : B_X8_changes_49 N m s0 = some (r, m')) : AW K 0 49 [] [q_i s0] m := by
  unfold B_X8_changes_49 at hF
  obtain ⟨rfl, rfl⟩ := so_inj hF
  exact aw_iret hK hR rfl dX8_changes_49
def B_X8_changes_14 (N : Nat) (m : Mem) (x1 : Int32) (s0 : Int32) : Option (Int32 × Mem) :=
  cal (F_X8_isFine N m s0) fun r6 m5 =>
  if r6 = (0 : Int32) then (
    some ((0 : Int32), m5)
  ) else (
    calv (F_X8_restsOfChanges N m5 x1) fun m8 =>
    gd (inb (0 : Int32) (alen 99)) <|
    if (m8 99 (ix (0 : Int32))) = (2000000000 : Int32) then (
      B_X8_changes_49 N m8 (-1 : Int32)
    ) else (
      gd (inb (0 : Int32) (alen 99)) <|
      B_X8_changes_49 N m8 (m8 99 (ix (0 : Int32)))
    )
  )
set_option maxRecDepth 100000 in
set_option maxHeartbeats 4000000 in
theorem bk_X8_changes_14 {N : Nat} {K : KT} {m' : Mem} {r : Int32} (hK : KOK K cX8_changes 2 RX8 wsX8_changes 2 0 47) (hR : KRet K (some .int) (some r) m') {m : Mem} {x1 : Int32} {s0 : Int32} (hF : B_X8_changes_14 N m x1 s0 = some (r, m')) : AW K 0 14 [(0, q_r 70), (1, q_i x1)] [q_i s0, q_r 70] m := by
  unfold B_X8_changes_14 at hF
  obtain ⟨r6, m5, h4, hF⟩ := cal_some hF
  refine aw_cv hK 8 (as := [q_i s0]) (tr_X8_isFine h4) gX8_changes_X8_isFine rfl rfl rfl (by decide) (na := 1) (by decide +kernel) rfl ⟨by decide, by decide⟩ (Nat.zero_le _) (Nat.le_of_ble_eq_true rfl) dX8_changes_14 ?_
  refine aw_if_ne hK 22 rfl dX8_changes_17 (fun hc => ?_) (fun hc => ?_)
  · have hF := if_f hF hc
    refine aw_aload_n hK 0 rfl dX8_changes_22 ?_
    refine aw_iload_n hK 1 rfl dX8_changes_23 ?_
    obtain ⟨m8, h7, hF⟩ := calv_some hF
    refine aw_cv hK 8 (as := [q_i x1]) (tr_X8_restsOfChanges h7) gX8_changes_X8_restsOfChanges rfl rfl rfl (by decide) (na := 1) (by decide +kernel) rfl ⟨by decide, by decide⟩ (Nat.zero_le _) (Nat.le_of_ble_eq_true rfl) dX8_changes_24 ?_
    refine aw_aload_n hK 0 rfl dX8_changes_27 ?_
    refine gf_8_36 hK rfl (99) rfl (List.mem_of_getElem? (i := 1) rfl) dX8_changes_28 ?_
    refine aw_iconst hK (0) rfl dX8_changes_31 ?_
    obtain ⟨g9, hF⟩ := gd_some hF
    refine aw_iald hK rfl g9 dX8_changes_32 ?_
    refine aw_ldc_w hK (2000000000) (List.mem_of_getElem? (i := 2) rfl) dX8_changes_33 ?_
    refine aw_icmp_ne hK 43 rfl dX8_changes_36 (fun hc => ?_) (fun hc => ?_)
    · have hF := if_f hF hc
      refine aw_aload_n hK 0 rfl dX8_changes_43 ?_
      refine gf_8_36 hK rfl (99) rfl (List.mem_of_getElem? (i := 1) rfl) dX8_changes_44 ?_
      refine aw_iconst hK (0) rfl dX8_changes_47 ?_
      obtain ⟨g10, hF⟩ := gd_some hF
      refine aw_iald hK rfl g10 dX8_changes_48 ?_
      refine aw_sub [] (lv' := []) rfl ?_
      exact bk_X8_changes_49 hK hR hF
    · have hF := if_t hF hc
      refine aw_iconst hK (-1) rfl dX8_changes_39 ?_
      refine aw_goto hK 49 rfl dX8_changes_40 ?_
      refine aw_sub [] (lv' := []) rfl ?_
      exact bk_X8_changes_49 hK hR hF
  · have hF := if_t hF hc
    refine aw_iconst hK (0) rfl dX8_changes_20 ?_
    obtain ⟨rfl, rfl⟩ := so_inj hF
    exact aw_iret hK hR rfl dX8_changes_21
def F_X8_changes (N : Nat) (m : Mem) (x1 : Int32) : Option (Int32 × Mem) :=
  cal (F_X8_isMachine N m x1) fun r3 m2 =>
  if r3 = (0 : Int32) then (
    B_X8_changes_14 N m2 x1 (1 : Int32)
  ) else (
    B_X8_changes_14 N m2 x1 (0 : Int32)
  )
set_option maxRecDepth 100000 in
set_option maxHeartbeats 4000000 in
theorem tr_X8_changes {N : Nat} {m m' : Mem} {r : Int32} {x1 : Int32} (hF : F_X8_changes N m x1 = some (r, m')) : Tr yX8_changes wsX8_changes 2 47 [q_r 70, q_i x1] m (some r) m' := by
  refine tr_of (bytes := cX8_changes) (maxL := 2) (ret := (some .int)) (by decide) rfl (Nat.le_of_ble_eq_true rfl) (fun K hK hR => ?_)
  have hK : KOK K cX8_changes 2 RX8 wsX8_changes 2 0 47 := hK
  show AW K 0 0 [(0, q_r 70), (1, q_i x1)] [] m
  unfold F_X8_changes at hF
  refine aw_aload_n hK 0 rfl dX8_changes_0 ?_
  refine aw_aload_n hK 0 rfl dX8_changes_1 ?_
  refine aw_iload_n hK 1 rfl dX8_changes_2 ?_
  obtain ⟨r3, m2, h1, hF⟩ := cal_some hF
  refine aw_cv hK 8 (as := [q_i x1]) (tr_X8_isMachine h1) gX8_changes_X8_isMachine rfl rfl rfl (by decide) (na := 1) (by decide +kernel) rfl ⟨by decide, by decide⟩ (Nat.zero_le _) (Nat.le_of_ble_eq_true rfl) dX8_changes_3 ?_
  refine aw_if_eq hK 13 rfl dX8_changes_6 (fun hc => ?_) (fun hc => ?_)
  · have hF := if_t hF hc
    refine aw_iconst hK (1) rfl dX8_changes_13 ?_
    refine aw_sub [0, 1] (lv' := [(0, q_r 70), (1, q_i x1)]) rfl ?_
    exact bk_X8_changes_14 hK hR hF
  · have hF := if_f hF hc
    refine aw_iconst hK (0) rfl dX8_changes_9 ?_
    refine aw_goto hK 14 rfl dX8_changes_10 ?_
    refine aw_sub [0, 1] (lv' := [(0, q_r 70), (1, q_i x1)]) rfl ?_
    exact bk_X8_changes_14 hK hR hF
def S_X8_tellsMended_33 (N : Nat) (rec_22 : Mem → Int32 → Int32 → Option Mem) (rec_33 : Mem → Int32 → Int32 → Int32 → Option Mem) (m : Mem) (x1 : Int32) (x2 : Int32) (x3 : Int32) : Option Mem :=
  cal (F_X8_goesChanged N m x1 x3) fun r13 m12 =>
  if r13 = x2 then (
    calv (F_X8_begins_ N m12 (0 : Int32)) fun m15 =>
    calv (F_X8_closesChanges N m15 x1) fun m17 =>
    gd (inb (m17 70 42) (alen 104)) <|
    bnd (mup m17 104 (ix (m17 70 42)) x3) fun m19 =>
    bnd (mup m19 70 42 ((m19 70 42) + (1 : Int32))) fun m20 =>
    rec_22 m20 x1 x2
  ) else (
    bnd (x3 + (1 : Int32)) fun y21 =>
    rec_33 m12 x1 x2 y21
  )
def L_X8_tellsMended_33 (N : Nat) (rec_22 : Mem → Int32 → Int32 → Option Mem) : Nat → Mem → Int32 → Int32 → Int32 → Option Mem
  | 0 => fun _ _ _ _ => none
  | f + 1 => S_X8_tellsMended_33 N rec_22 (L_X8_tellsMended_33 N rec_22 f)
set_option maxRecDepth 100000 in
set_option maxHeartbeats 4000000 in
theorem lp_X8_tellsMended_33 {N : Nat} {K : KT} {m' : Mem} {rec_22 : Mem → Int32 → Int32 → Option Mem} (hK : KOK K cX8_tellsMended 4 RX8 wsX8_tellsMended 2 0 47) (hR : KRet K none none m') (hrec_22 : ∀ {m : Mem} {x1 : Int32} {x2 : Int32}, rec_22 m x1 x2 = some m' → AW K 0 22 [(0, q_r 70), (1, q_i x1), (2, q_i x2)] [] m) : ∀ (f : Nat) {m : Mem} {x1 : Int32} {x2 : Int32} {x3 : Int32}, L_X8_tellsMended_33 N rec_22 f m x1 x2 x3 = some m' → AW K 0 33 [(0, q_r 70), (1, q_i x1), (2, q_i x2), (3, q_i x3)] [] m := by
  intro f
  induction f with
  | zero => intro m x1 x2 x3 hF; cases hF
  | succ f hrec_33 =>
    intro m x1 x2 x3 hF
    have hF : S_X8_tellsMended_33 N rec_22 (L_X8_tellsMended_33 N rec_22 f) m x1 x2 x3 = some m' := hF
    unfold S_X8_tellsMended_33 at hF
    refine aw_aload_n hK 0 rfl dX8_tellsMended_33 ?_
    refine aw_iload_n hK 1 rfl dX8_tellsMended_34 ?_
    refine aw_iload_n hK 3 rfl dX8_tellsMended_35 ?_
    obtain ⟨r13, m12, h11, hF⟩ := cal_some hF
    refine aw_cv hK 8 (as := [q_i x1, q_i x3]) (tr_X8_goesChanged h11) gX8_tellsMended_X8_goesChanged rfl rfl rfl (by decide) (na := 2) (by decide +kernel) rfl ⟨by decide, by decide⟩ (Nat.zero_le _) (Nat.le_of_ble_eq_true rfl) dX8_tellsMended_36 ?_
    refine aw_iload_n hK 2 rfl dX8_tellsMended_39 ?_
    refine aw_icmp_eq hK 49 rfl dX8_tellsMended_40 (fun hc => ?_) (fun hc => ?_)
    · have hF := if_t hF hc
      refine aw_aload_n hK 0 rfl dX8_tellsMended_49 ?_
      refine aw_iconst hK (0) rfl dX8_tellsMended_50 ?_
      obtain ⟨m15, h14, hF⟩ := calv_some hF
      refine aw_cv hK 8 (as := [q_i (0 : Int32)]) (tr_X8_begins_ h14) gX8_tellsMended_X8_begins_ rfl rfl rfl (by decide) (na := 1) (by decide +kernel) rfl ⟨by decide, by decide⟩ (Nat.zero_le _) (Nat.le_of_ble_eq_true rfl) dX8_tellsMended_51 ?_
      refine aw_aload_n hK 0 rfl dX8_tellsMended_54 ?_
      refine aw_iload_n hK 1 rfl dX8_tellsMended_55 ?_
      obtain ⟨m17, h16, hF⟩ := calv_some hF
      refine aw_cv hK 8 (as := [q_i x1]) (tr_X8_closesChanges h16) gX8_tellsMended_X8_closesChanges rfl rfl rfl (by decide) (na := 1) (by decide +kernel) rfl ⟨by decide, by decide⟩ (Nat.zero_le _) (Nat.le_of_ble_eq_true rfl) dX8_tellsMended_56 ?_
      refine aw_aload_n hK 0 rfl dX8_tellsMended_59 ?_
      refine gf_8_41 hK rfl (104) rfl (List.mem_of_getElem? (i := 3) rfl) dX8_tellsMended_60 ?_
      refine aw_aload_n hK 0 rfl dX8_tellsMended_63 ?_
      refine gf_8_42 hK rfl (List.mem_of_getElem? (i := 2) rfl) dX8_tellsMended_64 ?_
      refine aw_iload_n hK 3 rfl dX8_tellsMended_67 ?_
      obtain ⟨g18, hF⟩ := gd_some hF
      refine aw_iast hK rfl g18 dX8_tellsMended_68 ?_
      obtain ⟨m19, hm19, hF⟩ := bnd_some hF
      refine aw_mm hm19 ?_
      refine aw_aload_n hK 0 rfl dX8_tellsMended_69 ?_
      refine aw_dup hK rfl dX8_tellsMended_70 ?_
      refine gf_8_42 hK rfl (List.mem_of_getElem? (i := 2) rfl) dX8_tellsMended_71 ?_
      refine aw_iconst hK (1) rfl dX8_tellsMended_74 ?_
      refine aw_iadd hK dX8_tellsMended_75 ?_
      refine pf_8_42 hK rfl (List.mem_of_getElem? (i := 2) rfl) dX8_tellsMended_76 ?_
      obtain ⟨m20, hm20, hF⟩ := bnd_some hF
      refine aw_mm hm20 ?_
      refine aw_goto hK 22 rfl dX8_tellsMended_79 ?_
      refine aw_sub [0, 1, 2] (lv' := [(0, q_r 70), (1, q_i x1), (2, q_i x2)]) rfl ?_
      exact hrec_22 hF
    · have hF := if_f hF hc
      obtain ⟨y21, hy21, hF⟩ := bnd_some hF
      refine aw_iinc hK (cz := 1) 3 [(3, q_i y21), (0, q_r 70), (1, q_i x1), (2, q_i x2)] (by decide) rfl rfl hy21 rfl dX8_tellsMended_43 ?_
      refine aw_goto hK 33 rfl dX8_tellsMended_46 ?_
      refine aw_sub [1, 2, 3, 0] (lv' := [(0, q_r 70), (1, q_i x1), (2, q_i x2), (3, q_i y21)]) rfl ?_
      exact hrec_33 hF
def S_X8_tellsMended_22 (N : Nat) (rec_22 : Mem → Int32 → Int32 → Option Mem) (m : Mem) (x1 : Int32) (x2 : Int32) : Option Mem :=
  cal (F_X8_isDoneFor N m x1 x2) fun r10 m9 =>
  if r10 = (0 : Int32) then (
    L_X8_tellsMended_33 N rec_22 N m9 x1 x2 (0 : Int32)
  ) else (
    some m9
  )
def L_X8_tellsMended_22 (N : Nat) : Nat → Mem → Int32 → Int32 → Option Mem
  | 0 => fun _ _ _ => none
  | f + 1 => S_X8_tellsMended_22 N (L_X8_tellsMended_22 N f)
set_option maxRecDepth 100000 in
set_option maxHeartbeats 4000000 in
theorem lp_X8_tellsMended_22 {N : Nat} {K : KT} {m' : Mem} (hK : KOK K cX8_tellsMended 4 RX8 wsX8_tellsMended 2 0 47) (hR : KRet K none none m') : ∀ (f : Nat) {m : Mem} {x1 : Int32} {x2 : Int32}, L_X8_tellsMended_22 N f m x1 x2 = some m' → AW K 0 22 [(0, q_r 70), (1, q_i x1), (2, q_i x2)] [] m := by
  intro f
  induction f with
  | zero => intro m x1 x2 hF; cases hF
  | succ f hrec_22 =>
    intro m x1 x2 hF
    have hF : S_X8_tellsMended_22 N (L_X8_tellsMended_22 N f) m x1 x2 = some m' := hF
    unfold S_X8_tellsMended_22 at hF
    refine aw_aload_n hK 0 rfl dX8_tellsMended_22 ?_
    refine aw_iload_n hK 1 rfl dX8_tellsMended_23 ?_
    refine aw_iload_n hK 2 rfl dX8_tellsMended_24 ?_
    obtain ⟨r10, m9, h8, hF⟩ := cal_some hF
    refine aw_cv hK 8 (as := [q_i x1, q_i x2]) (tr_X8_isDoneFor h8) gX8_tellsMended_X8_isDoneFor rfl rfl rfl (by decide) (na := 2) (by decide +kernel) rfl ⟨by decide, by decide⟩ (Nat.zero_le _) (Nat.le_of_ble_eq_true rfl) dX8_tellsMended_25 ?_
    refine aw_if_ne hK 82 rfl dX8_tellsMended_28 (fun hc => ?_) (fun hc => ?_)
    · have hF := if_f hF hc
      obtain rfl := Option.some.inj hF
      exact aw_vret hK hR dX8_tellsMended_82
    · have hF := if_t hF hc
      refine aw_iconst hK (0) rfl dX8_tellsMended_31 ?_
      refine aw_istore_n hK [(3, q_i (0 : Int32)), (0, q_r 70), (1, q_i x1), (2, q_i x2)] (by decide) rfl dX8_tellsMended_32 ?_
      refine aw_sub [1, 2, 3, 0] (lv' := [(0, q_r 70), (1, q_i x1), (2, q_i x2), (3, q_i (0 : Int32))]) rfl ?_
      exact lp_X8_tellsMended_33 hK hR hrec_22 _ hF
def F_X8_tellsMended (N : Nat) (m : Mem) (x1 : Int32) : Option Mem :=
  gd (inb (0 : Int32) (alen 99)) <|
  bnd (m 99 (ix (0 : Int32))) fun y2 =>
  calv (F_X8_begins_ N m (1 : Int32)) fun m4 =>
  calv (F_X8_closesChanges N m4 x1) fun m6 =>
  bnd (mup m6 70 42 (0 : Int32)) fun m7 =>
  L_X8_tellsMended_22 N N m7 x1 y2
set_option maxRecDepth 100000 in
set_option maxHeartbeats 4000000 in
theorem tr_X8_tellsMended {N : Nat} {m m' : Mem} {x1 : Int32} (hF : F_X8_tellsMended N m x1 = some m') : Tr yX8_tellsMended wsX8_tellsMended 2 47 [q_r 70, q_i x1] m none m' := by
  refine tr_of (bytes := cX8_tellsMended) (maxL := 4) (ret := none) (by decide) rfl (Nat.le_of_ble_eq_true rfl) (fun K hK hR => ?_)
  have hK : KOK K cX8_tellsMended 4 RX8 wsX8_tellsMended 2 0 47 := hK
  show AW K 0 0 [(0, q_r 70), (1, q_i x1)] [] m
  unfold F_X8_tellsMended at hF
  refine aw_aload_n hK 0 rfl dX8_tellsMended_0 ?_
  refine gf_8_36 hK rfl (99) rfl (List.mem_of_getElem? (i := 1) rfl) dX8_tellsMended_1 ?_
  refine aw_iconst hK (0) rfl dX8_tellsMended_4 ?_
  obtain ⟨g1, hF⟩ := gd_some hF
  refine aw_iald hK rfl g1 dX8_tellsMended_5 ?_
  obtain ⟨y2, hy2, hF⟩ := bnd_some hF
  refine aw_nm hy2 ?_
  refine aw_istore_n hK [(2, q_i y2), (0, q_r 70), (1, q_i x1)] (by decide) rfl dX8_tellsMended_6 ?_
  refine aw_aload_n hK 1 rfl dX8_tellsMended_7 ?_
  refine aw_iconst hK (1) rfl dX8_tellsMended_8 ?_
  obtain ⟨m4, h3, hF⟩ := calv_some hF
  refine aw_cv hK 8 (as := [q_i (1 : Int32)]) (tr_X8_begins_ h3) gX8_tellsMended_X8_begins_ rfl rfl rfl (by decide) (na := 1) (by decide +kernel) rfl ⟨by decide, by decide⟩ (Nat.zero_le _) (Nat.le_of_ble_eq_true rfl) dX8_tellsMended_9 ?_
  refine aw_aload_n hK 1 rfl dX8_tellsMended_12 ?_
  refine aw_iload_n hK 2 rfl dX8_tellsMended_13 ?_
  obtain ⟨m6, h5, hF⟩ := calv_some hF
  refine aw_cv hK 8 (as := [q_i x1]) (tr_X8_closesChanges h5) gX8_tellsMended_X8_closesChanges rfl rfl rfl (by decide) (na := 1) (by decide +kernel) rfl ⟨by decide, by decide⟩ (Nat.zero_le _) (Nat.le_of_ble_eq_true rfl) dX8_tellsMended_14 ?_
  refine aw_aload_n hK 1 rfl dX8_tellsMended_17 ?_
  refine aw_iconst hK (0) rfl dX8_tellsMended_18 ?_
  refine pf_8_42 hK rfl (List.mem_of_getElem? (i := 2) rfl) dX8_tellsMended_19 ?_
  obtain ⟨m7, hm7, hF⟩ := bnd_some hF
  refine aw_mm hm7 ?_
  refine aw_sub [1, 2, 0] (lv' := [(0, q_r 70), (1, q_i x1), (2, q_i y2)]) rfl ?_
  exact lp_X8_tellsMended_22 hK hR _ hF
def B_X8_mended_18 (N : Nat) (m : Mem) (x1 : Int32) (x2 : Int32) (s0 : Int32) : Option (Int32 × Mem) :=
  cal (F_X8_isFine N m s0) fun r6 m5 =>
  if r6 = (0 : Int32) then (
    some ((0 : Int32), m5)
  ) else (
    calv (F_X8_restsOfChanges N m5 x1) fun m8 =>
    gd (inb (0 : Int32) (alen 99)) <|
    if (m8 99 (ix (0 : Int32))) = (2000000000 : Int32) then (
      some ((-1 : Int32), m8)
    ) else (
      calv (F_X8_tellsMended N m8 x1) fun m11 =>
      cal (F_X8_letterAt N m11 x2) fun r14 m13 =>
      some (r14, m13)
    )
  )
set_option maxRecDepth 100000 in
set_option maxHeartbeats 4000000 in
theorem bk_X8_mended_18 {N : Nat} {K : KT} {m' : Mem} {r : Int32} (hK : KOK K cX8_mended 3 RX8 wsX8_mended 3 0 70) (hR : KRet K (some .int) (some r) m') {m : Mem} {x1 : Int32} {x2 : Int32} {s0 : Int32} (hF : B_X8_mended_18 N m x1 x2 s0 = some (r, m')) : AW K 0 18 [(0, q_r 70), (1, q_i x1), (2, q_i x2)] [q_i s0, q_r 70] m := by
  unfold B_X8_mended_18 at hF
  obtain ⟨r6, m5, h4, hF⟩ := cal_some hF
  refine aw_cv hK 8 (as := [q_i s0]) (tr_X8_isFine h4) gX8_mended_X8_isFine rfl rfl rfl (by decide) (na := 1) (by decide +kernel) rfl ⟨by decide, by decide⟩ (Nat.zero_le _) (Nat.le_of_ble_eq_true rfl) dX8_mended_18 ?_
  refine aw_if_ne hK 26 rfl dX8_mended_21 (fun hc => ?_) (fun hc => ?_)
  · have hF := if_f hF hc
    refine aw_aload_n hK 0 rfl dX8_mended_26 ?_
    refine aw_iload_n hK 1 rfl dX8_mended_27 ?_
    obtain ⟨m8, h7, hF⟩ := calv_some hF
    refine aw_cv hK 8 (as := [q_i x1]) (tr_X8_restsOfChanges h7) gX8_mended_X8_restsOfChanges rfl rfl rfl (by decide) (na := 1) (by decide +kernel) rfl ⟨by decide, by decide⟩ (Nat.zero_le _) (Nat.le_of_ble_eq_true rfl) dX8_mended_28 ?_
    refine aw_aload_n hK 0 rfl dX8_mended_31 ?_
    refine gf_8_36 hK rfl (99) rfl (List.mem_of_getElem? (i := 1) rfl) dX8_mended_32 ?_
    refine aw_iconst hK (0) rfl dX8_mended_35 ?_
    obtain ⟨g9, hF⟩ := gd_some hF
    refine aw_iald hK rfl g9 dX8_mended_36 ?_
    refine aw_ldc_w hK (2000000000) (List.mem_of_getElem? (i := 2) rfl) dX8_mended_37 ?_
    refine aw_icmp_ne hK 45 rfl dX8_mended_40 (fun hc => ?_) (fun hc => ?_)
    · have hF := if_f hF hc
      refine aw_aload_n hK 0 rfl dX8_mended_45 ?_
      refine aw_iload_n hK 1 rfl dX8_mended_46 ?_
      obtain ⟨m11, h10, hF⟩ := calv_some hF
      refine aw_cv hK 8 (as := [q_i x1]) (tr_X8_tellsMended h10) gX8_mended_X8_tellsMended rfl rfl rfl (by decide) (na := 1) (by decide +kernel) rfl ⟨by decide, by decide⟩ (Nat.zero_le _) (Nat.le_of_ble_eq_true rfl) dX8_mended_47 ?_
      refine aw_aload_n hK 0 rfl dX8_mended_50 ?_
      refine aw_iload_n hK 2 rfl dX8_mended_51 ?_
      obtain ⟨r14, m13, h12, hF⟩ := cal_some hF
      refine aw_cv hK 8 (as := [q_i x2]) (tr_X8_letterAt h12) gX8_mended_X8_letterAt rfl rfl rfl (by decide) (na := 1) (by decide +kernel) rfl ⟨by decide, by decide⟩ (Nat.zero_le _) (Nat.le_of_ble_eq_true rfl) dX8_mended_52 ?_
      obtain ⟨rfl, rfl⟩ := so_inj hF
      exact aw_iret hK hR rfl dX8_mended_55
    · have hF := if_t hF hc
      refine aw_iconst hK (-1) rfl dX8_mended_43 ?_
      obtain ⟨rfl, rfl⟩ := so_inj hF
      exact aw_iret hK hR rfl dX8_mended_44
  · have hF := if_t hF hc
    refine aw_iconst hK (0) rfl dX8_mended_24 ?_
    obtain ⟨rfl, rfl⟩ := so_inj hF
    exact aw_iret hK hR rfl dX8_mended_25
def B_X8_mended_17 (N : Nat) (m : Mem) (x1 : Int32) (x2 : Int32) : Option (Int32 × Mem) :=
  B_X8_mended_18 N m x1 x2 (1 : Int32)
set_option maxRecDepth 100000 in
set_option maxHeartbeats 4000000 in
theorem bk_X8_mended_17 {N : Nat} {K : KT} {m' : Mem} {r : Int32} (hK : KOK K cX8_mended 3 RX8 wsX8_mended 3 0 70) (hR : KRet K (some .int) (some r) m') {m : Mem} {x1 : Int32} {x2 : Int32} (hF : B_X8_mended_17 N m x1 x2 = some (r, m')) : AW K 0 17 [(0, q_r 70), (1, q_i x1), (2, q_i x2)] [q_r 70] m := by
  unfold B_X8_mended_17 at hF
  refine aw_iconst hK (1) rfl dX8_mended_17 ?_
  refine aw_sub [0, 1, 2] (lv' := [(0, q_r 70), (1, q_i x1), (2, q_i x2)]) rfl ?_
  exact bk_X8_mended_18 hK hR hF
def F_X8_mended (N : Nat) (m : Mem) (x1 : Int32) (x2 : Int32) : Option (Int32 × Mem) :=
  cal (F_X8_isMachine N m x1) fun r3 m2 =>
  if r3 = (0 : Int32) then (
    B_X8_mended_17 N m2 x1 x2
  ) else (
    if x2 < (0 : Int32) then (
      B_X8_mended_17 N m2 x1 x2
    ) else (
      B_X8_mended_18 N m2 x1 x2 (0 : Int32)
    )
  )
set_option maxRecDepth 100000 in
set_option maxHeartbeats 4000000 in
theorem tr_X8_mended {N : Nat} {m m' : Mem} {r : Int32} {x1 : Int32} {x2 : Int32} (hF : F_X8_mended N m x1 x2 = some (r, m')) : Tr yX8_mended wsX8_mended 3 70 [q_r 70, q_i x1, q_i x2] m (some r) m' := by
  refine tr_of (bytes := cX8_mended) (maxL := 3) (ret := (some .int)) (by decide) rfl (Nat.le_of_ble_eq_true rfl) (fun K hK hR => ?_)
  have hK : KOK K cX8_mended 3 RX8 wsX8_mended 3 0 70 := hK
  show AW K 0 0 [(0, q_r 70), (1, q_i x1), (2, q_i x2)] [] m
  unfold F_X8_mended at hF
  refine aw_aload_n hK 0 rfl dX8_mended_0 ?_
  refine aw_aload_n hK 0 rfl dX8_mended_1 ?_
  refine aw_iload_n hK 1 rfl dX8_mended_2 ?_
  obtain ⟨r3, m2, h1, hF⟩ := cal_some hF
  refine aw_cv hK 8 (as := [q_i x1]) (tr_X8_isMachine h1) gX8_mended_X8_isMachine rfl rfl rfl (by decide) (na := 1) (by decide +kernel) rfl ⟨by decide, by decide⟩ (Nat.zero_le _) (Nat.le_of_ble_eq_true rfl) dX8_mended_3 ?_
  refine aw_if_eq hK 17 rfl dX8_mended_6 (fun hc => ?_) (fun hc => ?_)
  · have hF := if_t hF hc
    refine aw_sub [0, 1, 2] (lv' := [(0, q_r 70), (1, q_i x1), (2, q_i x2)]) rfl ?_
    exact bk_X8_mended_17 hK hR hF
  · have hF := if_f hF hc
    refine aw_iload_n hK 2 rfl dX8_mended_9 ?_
    refine aw_if_lt hK 17 rfl dX8_mended_10 (fun hc => ?_) (fun hc => ?_)
    · have hF := if_t hF hc
      refine aw_sub [0, 1, 2] (lv' := [(0, q_r 70), (1, q_i x1), (2, q_i x2)]) rfl ?_
      exact bk_X8_mended_17 hK hR hF
    · have hF := if_f hF hc
      refine aw_iconst hK (0) rfl dX8_mended_13 ?_
      refine aw_goto hK 18 rfl dX8_mended_14 ?_
      refine aw_sub [0, 1, 2] (lv' := [(0, q_r 70), (1, q_i x1), (2, q_i x2)]) rfl ?_
      exact bk_X8_mended_18 hK hR hF
def S_X8_apart_182 (N : Nat) (rec_182 : Mem → Int32 → Int32 → Int32 → Option (Int32 × Mem)) (m : Mem) (x3 : Int32) (x6 : Int32) (x8 : Int32) : Option (Int32 × Mem) :=
  if x8 ≤ x3 then (
    gd (inb x6 (alen 96)) <|
    some (m 96 (ix x6), m)
  ) else (
    gd (inb x6 (alen 95)) <|
    bnd (m 95 (ix x6)) fun y30 =>
    bnd (x8 + (-1 : Int32)) fun y31 =>
    rec_182 m x3 y30 y31
  )
def L_X8_apart_182 (N : Nat) : Nat → Mem → Int32 → Int32 → Int32 → Option (Int32 × Mem)
  | 0 => fun _ _ _ _ => none
  | f + 1 => S_X8_apart_182 N (L_X8_apart_182 N f)
set_option maxRecDepth 100000 in
set_option maxHeartbeats 4000000 in
theorem lp_X8_apart_182 {N : Nat} {K : KT} {m' : Mem} {r : Int32} (hK : KOK K cX8_apart 9 RX8 wsX8_apart 3 0 78) (hR : KRet K (some .int) (some r) m') : ∀ (f : Nat) {m : Mem} {x3 : Int32} {x6 : Int32} {x8 : Int32}, L_X8_apart_182 N f m x3 x6 x8 = some (r, m') → AW K 0 182 [(0, q_r 70), (3, q_i x3), (6, q_i x6), (8, q_i x8)] [] m := by
  intro f
  induction f with
  | zero => intro m x3 x6 x8 hF; cases hF
  | succ f hrec_182 =>
    intro m x3 x6 x8 hF
    have hF : S_X8_apart_182 N (L_X8_apart_182 N f) m x3 x6 x8 = some (r, m') := hF
    unfold S_X8_apart_182 at hF
    refine aw_iload hK 3 rfl dX8_apart_182 ?_
    refine aw_iload_n hK 1 rfl dX8_apart_184 ?_
    refine aw_icmp_le hK 203 rfl dX8_apart_185 (fun hc => ?_) (fun hc => ?_)
    · have hF := if_t hF hc
      refine aw_aload_n hK 0 rfl dX8_apart_203 ?_
      refine gf_8_32 hK rfl (96) rfl (List.mem_of_getElem? (i := 3) rfl) dX8_apart_204 ?_
      refine aw_iload hK 2 rfl dX8_apart_207 ?_
      obtain ⟨g28, hF⟩ := gd_some hF
      refine aw_iald hK rfl g28 dX8_apart_209 ?_
      obtain ⟨rfl, rfl⟩ := so_inj hF
      exact aw_iret hK hR rfl dX8_apart_210
    · have hF := if_f hF hc
      refine aw_aload_n hK 0 rfl dX8_apart_188 ?_
      refine gf_8_31 hK rfl (95) rfl (List.mem_of_getElem? (i := 2) rfl) dX8_apart_189 ?_
      refine aw_iload hK 2 rfl dX8_apart_192 ?_
      obtain ⟨g29, hF⟩ := gd_some hF
      refine aw_iald hK rfl g29 dX8_apart_194 ?_
      obtain ⟨y30, hy30, hF⟩ := bnd_some hF
      refine aw_nm hy30 ?_
      refine aw_istore hK [(6, q_i y30), (0, q_r 70), (3, q_i x3), (8, q_i x8)] (by decide) rfl dX8_apart_195 ?_
      obtain ⟨y31, hy31, hF⟩ := bnd_some hF
      refine aw_iinc hK (cz := -1) 3 [(8, q_i y31), (6, q_i y30), (0, q_r 70), (3, q_i x3)] (by decide) rfl rfl hy31 rfl dX8_apart_197 ?_
      refine aw_goto hK 182 rfl dX8_apart_200 ?_
      refine aw_sub [2, 3, 1, 0] (lv' := [(0, q_r 70), (3, q_i x3), (6, q_i y30), (8, q_i y31)]) rfl ?_
      exact hrec_182 hF
def S_X8_apart_141 (N : Nat) (rec_141 : Mem → Int32 → Int32 → Int32 → Int32 → Option (Int32 × Mem)) (m : Mem) (x3 : Int32) (x6 : Int32) (x7 : Int32) (x8 : Int32) : Option (Int32 × Mem) :=
  gd (inb x8 (alen 95)) <|
  if (m 95 (ix x8)) = (-1 : Int32) then (
    if x3 < x7 then (
      bnd (x7 - (1 : Int32)) fun y24 =>
      L_X8_apart_182 N N m x3 x6 y24
    ) else (
      some ((8 : Int32), m)
    )
  ) else (
    bnd (x7 + (1 : Int32)) fun y25 =>
    gd (inb x8 (alen 95)) <|
    bnd (m 95 (ix x8)) fun y27 =>
    rec_141 m x3 x6 y25 y27
  )
def L_X8_apart_141 (N : Nat) : Nat → Mem → Int32 → Int32 → Int32 → Int32 → Option (Int32 × Mem)
  | 0 => fun _ _ _ _ _ => none
  | f + 1 => S_X8_apart_141 N (L_X8_apart_141 N f)
set_option maxRecDepth 100000 in
set_option maxHeartbeats 4000000 in
theorem lp_X8_apart_141 {N : Nat} {K : KT} {m' : Mem} {r : Int32} (hK : KOK K cX8_apart 9 RX8 wsX8_apart 3 0 78) (hR : KRet K (some .int) (some r) m') : ∀ (f : Nat) {m : Mem} {x3 : Int32} {x6 : Int32} {x7 : Int32} {x8 : Int32}, L_X8_apart_141 N f m x3 x6 x7 x8 = some (r, m') → AW K 0 141 [(0, q_r 70), (3, q_i x3), (6, q_i x6), (7, q_i x7), (8, q_i x8)] [] m := by
  intro f
  induction f with
  | zero => intro m x3 x6 x7 x8 hF; cases hF
  | succ f hrec_141 =>
    intro m x3 x6 x7 x8 hF
    have hF : S_X8_apart_141 N (L_X8_apart_141 N f) m x3 x6 x7 x8 = some (r, m') := hF
    unfold S_X8_apart_141 at hF
    refine aw_aload_n hK 0 rfl dX8_apart_141 ?_
    refine gf_8_31 hK rfl (95) rfl (List.mem_of_getElem? (i := 2) rfl) dX8_apart_142 ?_
    refine aw_iload hK 4 rfl dX8_apart_145 ?_
    obtain ⟨g23, hF⟩ := gd_some hF
    refine aw_iald hK rfl g23 dX8_apart_147 ?_
    refine aw_iconst hK (-1) rfl dX8_apart_148 ?_
    refine aw_icmp_eq hK 167 rfl dX8_apart_149 (fun hc => ?_) (fun hc => ?_)
    · have hF := if_t hF hc
      refine aw_iload_n hK 1 rfl dX8_apart_167 ?_
      refine aw_iload hK 3 rfl dX8_apart_168 ?_
      refine aw_icmp_lt hK 176 rfl dX8_apart_170 (fun hc => ?_) (fun hc => ?_)
      · have hF := if_t hF hc
        refine aw_iload hK 3 rfl dX8_apart_176 ?_
        refine aw_iconst hK (1) rfl dX8_apart_178 ?_
        refine aw_isub hK dX8_apart_179 ?_
        obtain ⟨y24, hy24, hF⟩ := bnd_some hF
        refine aw_nm hy24 ?_
        refine aw_istore hK [(8, q_i y24), (0, q_r 70), (3, q_i x3), (6, q_i x6), (7, q_i x7)] (by decide) rfl dX8_apart_180 ?_
        refine aw_sub [1, 2, 3, 0] (lv' := [(0, q_r 70), (3, q_i x3), (6, q_i x6), (8, q_i y24)]) rfl ?_
        exact lp_X8_apart_182 hK hR _ hF
      · have hF := if_f hF hc
        refine aw_bipush hK (8) rfl dX8_apart_173 ?_
        obtain ⟨rfl, rfl⟩ := so_inj hF
        exact aw_iret hK hR rfl dX8_apart_175
    · have hF := if_f hF hc
      obtain ⟨y25, hy25, hF⟩ := bnd_some hF
      refine aw_iinc hK (cz := 1) 3 [(7, q_i y25), (0, q_r 70), (3, q_i x3), (6, q_i x6), (8, q_i x8)] (by decide) rfl rfl hy25 rfl dX8_apart_152 ?_
      refine aw_aload_n hK 1 rfl dX8_apart_155 ?_
      refine gf_8_31 hK rfl (95) rfl (List.mem_of_getElem? (i := 2) rfl) dX8_apart_156 ?_
      refine aw_iload hK 4 rfl dX8_apart_159 ?_
      obtain ⟨g26, hF⟩ := gd_some hF
      refine aw_iald hK rfl g26 dX8_apart_161 ?_
      obtain ⟨y27, hy27, hF⟩ := bnd_some hF
      refine aw_nm hy27 ?_
      refine aw_istore hK [(8, q_i y27), (7, q_i y25), (0, q_r 70), (3, q_i x3), (6, q_i x6)] (by decide) rfl dX8_apart_162 ?_
      refine aw_goto hK 141 rfl dX8_apart_164 ?_
      refine aw_sub [2, 3, 4, 1, 0] (lv' := [(0, q_r 70), (3, q_i x3), (6, q_i x6), (7, q_i y25), (8, q_i y27)]) rfl ?_
      exact hrec_141 hF
def B_X8_apart_123 (N : Nat) (m : Mem) (x3 : Int32) (x6 : Int32) : Option (Int32 × Mem) :=
  if x6 = (m 70 35) then (
    some ((-1 : Int32), m)
  ) else (
    L_X8_apart_141 N N m x3 x6 (0 : Int32) x6
  )
set_option maxRecDepth 100000 in
set_option maxHeartbeats 4000000 in
theorem bk_X8_apart_123 {N : Nat} {K : KT} {m' : Mem} {r : Int32} (hK : KOK K cX8_apart 9 RX8 wsX8_apart 3 0 78) (hR : KRet K (some .int) (some r) m') {m : Mem} {x3 : Int32} {x6 : Int32} (hF : B_X8_apart_123 N m x3 x6 = some (r, m')) : AW K 0 123 [(0, q_r 70), (3, q_i x3), (6, q_i x6)] [] m := by
  unfold B_X8_apart_123 at hF
  refine aw_iload hK 2 rfl dX8_apart_123 ?_
  refine aw_aload_n hK 0 rfl dX8_apart_125 ?_
  refine gf_8_35 hK rfl (List.mem_of_getElem? (i := 1) rfl) dX8_apart_126 ?_
  refine aw_icmp_ne hK 134 rfl dX8_apart_129 (fun hc => ?_) (fun hc => ?_)
  · have hF := if_f hF hc
    refine aw_iconst hK (0) rfl dX8_apart_134 ?_
    refine aw_istore hK [(7, q_i (0 : Int32)), (0, q_r 70), (3, q_i x3), (6, q_i x6)] (by decide) rfl dX8_apart_135 ?_
    refine aw_iload hK 3 rfl dX8_apart_137 ?_
    refine aw_istore hK [(8, q_i x6), (7, q_i (0 : Int32)), (0, q_r 70), (3, q_i x3), (6, q_i x6)] (by decide) rfl dX8_apart_139 ?_
    refine aw_sub [2, 3, 4, 1, 0] (lv' := [(0, q_r 70), (3, q_i x3), (6, q_i x6), (7, q_i (0 : Int32)), (8, q_i x6)]) rfl ?_
    exact lp_X8_apart_141 hK hR _ hF
  · have hF := if_t hF hc
    refine aw_iconst hK (-1) rfl dX8_apart_132 ?_
    obtain ⟨rfl, rfl⟩ := so_inj hF
    exact aw_iret hK hR rfl dX8_apart_133
def S_X8_apart_96 (N : Nat) (rec_96 : Mem → Int32 → Int32 → Int32 → Int32 → Option (Int32 × Mem)) (m : Mem) (x1 : Int32) (x2 : Int32) (x3 : Int32) (x6 : Int32) : Option (Int32 × Mem) :=
  if (m 70 35) ≤ x6 then (
    B_X8_apart_123 N m x3 x6
  ) else (
    cal (F_X8_isAccepted N m x6 x1 x2 (3 : Int32)) fun r21 m20 =>
    if r21 = (0 : Int32) then (
      bnd (x6 + (1 : Int32)) fun y22 =>
      rec_96 m20 x1 x2 x3 y22
    ) else (
      B_X8_apart_123 N m20 x3 x6
    )
  )
def L_X8_apart_96 (N : Nat) : Nat → Mem → Int32 → Int32 → Int32 → Int32 → Option (Int32 × Mem)
  | 0 => fun _ _ _ _ _ => none
  | f + 1 => S_X8_apart_96 N (L_X8_apart_96 N f)
set_option maxRecDepth 100000 in
set_option maxHeartbeats 4000000 in
theorem lp_X8_apart_96 {N : Nat} {K : KT} {m' : Mem} {r : Int32} (hK : KOK K cX8_apart 9 RX8 wsX8_apart 3 0 78) (hR : KRet K (some .int) (some r) m') : ∀ (f : Nat) {m : Mem} {x1 : Int32} {x2 : Int32} {x3 : Int32} {x6 : Int32}, L_X8_apart_96 N f m x1 x2 x3 x6 = some (r, m') → AW K 0 96 [(0, q_r 70), (1, q_i x1), (2, q_i x2), (3, q_i x3), (6, q_i x6)] [] m := by
  intro f
  induction f with
  | zero => intro m x1 x2 x3 x6 hF; cases hF
  | succ f hrec_96 =>
    intro m x1 x2 x3 x6 hF
    have hF : S_X8_apart_96 N (L_X8_apart_96 N f) m x1 x2 x3 x6 = some (r, m') := hF
    unfold S_X8_apart_96 at hF
    refine aw_iload hK 4 rfl dX8_apart_96 ?_
    refine aw_aload_n hK 0 rfl dX8_apart_98 ?_
    refine gf_8_35 hK rfl (List.mem_of_getElem? (i := 1) rfl) dX8_apart_99 ?_
    refine aw_icmp_ge hK 123 rfl dX8_apart_102 (fun hc => ?_) (fun hc => ?_)
    · have hF := if_t hF hc
      refine aw_sub [0, 3, 4] (lv' := [(0, q_r 70), (3, q_i x3), (6, q_i x6)]) rfl ?_
      exact bk_X8_apart_123 hK hR hF
    · have hF := if_f hF hc
      refine aw_aload_n hK 0 rfl dX8_apart_105 ?_
      refine aw_iload hK 4 rfl dX8_apart_106 ?_
      refine aw_iload_n hK 1 rfl dX8_apart_108 ?_
      refine aw_iload_n hK 2 rfl dX8_apart_109 ?_
      refine aw_iconst hK (3) rfl dX8_apart_110 ?_
      obtain ⟨r21, m20, h19, hF⟩ := cal_some hF
      refine aw_cv hK 8 (as := [q_i x6, q_i x1, q_i x2, q_i (3 : Int32)]) (tr_X8_isAccepted h19) gX8_apart_X8_isAccepted rfl rfl rfl (by decide) (na := 4) (by decide +kernel) rfl ⟨by decide, by decide⟩ (Nat.zero_le _) (Nat.le_of_ble_eq_true rfl) dX8_apart_111 ?_
      refine aw_if_ne hK 123 rfl dX8_apart_114 (fun hc => ?_) (fun hc => ?_)
      · have hF := if_f hF hc
        refine aw_sub [0, 3, 4] (lv' := [(0, q_r 70), (3, q_i x3), (6, q_i x6)]) rfl ?_
        exact bk_X8_apart_123 hK hR hF
      · have hF := if_t hF hc
        obtain ⟨y22, hy22, hF⟩ := bnd_some hF
        refine aw_iinc hK (cz := 1) 4 [(6, q_i y22), (0, q_r 70), (1, q_i x1), (2, q_i x2), (3, q_i x3)] (by decide) rfl rfl hy22 rfl dX8_apart_117 ?_
        refine aw_goto hK 96 rfl dX8_apart_120 ?_
        refine aw_sub [1, 2, 3, 4, 0] (lv' := [(0, q_r 70), (1, q_i x1), (2, q_i x2), (3, q_i x3), (6, q_i y22)]) rfl ?_
        exact hrec_96 hF
def B_X8_apart_85 (N : Nat) (m : Mem) (x1 : Int32) (x2 : Int32) (x3 : Int32) (s0 : Int32) : Option (Int32 × Mem) :=
  cal (F_X8_isFine N m s0) fun r18 m17 =>
  if r18 = (0 : Int32) then (
    some ((0 : Int32), m17)
  ) else (
    L_X8_apart_96 N N m17 x1 x2 x3 (0 : Int32)
  )
set_option maxRecDepth 100000 in
set_option maxHeartbeats 4000000 in
theorem bk_X8_apart_85 {N : Nat} {K : KT} {m' : Mem} {r : Int32} (hK : KOK K cX8_apart 9 RX8 wsX8_apart 3 0 78) (hR : KRet K (some .int) (some r) m') {m : Mem} {x1 : Int32} {x2 : Int32} {x3 : Int32} {s0 : Int32} (hF : B_X8_apart_85 N m x1 x2 x3 s0 = some (r, m')) : AW K 0 85 [(0, q_r 70), (1, q_i x1), (2, q_i x2), (3, q_i x3)] [q_i s0, q_r 70] m := by
  unfold B_X8_apart_85 at hF
  obtain ⟨r18, m17, h16, hF⟩ := cal_some hF
  refine aw_cv hK 8 (as := [q_i s0]) (tr_X8_isFine h16) gX8_apart_X8_isFine rfl rfl rfl (by decide) (na := 1) (by decide +kernel) rfl ⟨by decide, by decide⟩ (Nat.zero_le _) (Nat.le_of_ble_eq_true rfl) dX8_apart_85 ?_
  refine aw_if_ne hK 93 rfl dX8_apart_88 (fun hc => ?_) (fun hc => ?_)
  · have hF := if_f hF hc
    refine aw_iconst hK (0) rfl dX8_apart_93 ?_
    refine aw_istore hK [(6, q_i (0 : Int32)), (0, q_r 70), (1, q_i x1), (2, q_i x2), (3, q_i x3)] (by decide) rfl dX8_apart_94 ?_
    refine aw_sub [1, 2, 3, 4, 0] (lv' := [(0, q_r 70), (1, q_i x1), (2, q_i x2), (3, q_i x3), (6, q_i (0 : Int32))]) rfl ?_
    exact lp_X8_apart_96 hK hR _ hF
  · have hF := if_t hF hc
    refine aw_iconst hK (0) rfl dX8_apart_91 ?_
    obtain ⟨rfl, rfl⟩ := so_inj hF
    exact aw_iret hK hR rfl dX8_apart_92
def B_X8_apart_80 (N : Nat) (m : Mem) (x1 : Int32) (x2 : Int32) (x3 : Int32) : Option (Int32 × Mem) :=
  B_X8_apart_85 N m x1 x2 x3 (2 : Int32)
set_option maxRecDepth 100000 in
set_option maxHeartbeats 4000000 in
theorem bk_X8_apart_80 {N : Nat} {K : KT} {m' : Mem} {r : Int32} (hK : KOK K cX8_apart 9 RX8 wsX8_apart 3 0 78) (hR : KRet K (some .int) (some r) m') {m : Mem} {x1 : Int32} {x2 : Int32} {x3 : Int32} (hF : B_X8_apart_80 N m x1 x2 x3 = some (r, m')) : AW K 0 80 [(0, q_r 70), (1, q_i x1), (2, q_i x2), (3, q_i x3)] [q_r 70] m := by
  unfold B_X8_apart_80 at hF
  refine aw_iconst hK (2) rfl dX8_apart_80 ?_
  refine aw_goto hK 85 rfl dX8_apart_81 ?_
  refine aw_sub [0, 1, 2, 3] (lv' := [(0, q_r 70), (1, q_i x1), (2, q_i x2), (3, q_i x3)]) rfl ?_
  exact bk_X8_apart_85 hK hR hF
def B_X8_apart_53 (N : Nat) (m : Mem) (x1 : Int32) (x2 : Int32) (x3 : Int32) (x4 : Int32) (s0 : Int32) : Option (Int32 × Mem) :=
  if x4 = (0 : Int32) then (
    B_X8_apart_85 N m x1 x2 x3 (1 : Int32)
  ) else (
    if s0 = (0 : Int32) then (
      B_X8_apart_80 N m x1 x2 x3
    ) else (
      cal (F_X8_looks N m x1 x2 (3 : Int32)) fun r15 m14 =>
      if r15 = (0 : Int32) then (
        B_X8_apart_80 N m14 x1 x2 x3
      ) else (
        B_X8_apart_85 N m14 x1 x2 x3 (0 : Int32)
      )
    )
  )
set_option maxRecDepth 100000 in
set_option maxHeartbeats 4000000 in
theorem bk_X8_apart_53 {N : Nat} {K : KT} {m' : Mem} {r : Int32} (hK : KOK K cX8_apart 9 RX8 wsX8_apart 3 0 78) (hR : KRet K (some .int) (some r) m') {m : Mem} {x1 : Int32} {x2 : Int32} {x3 : Int32} {x4 : Int32} {s0 : Int32} (hF : B_X8_apart_53 N m x1 x2 x3 x4 s0 = some (r, m')) : AW K 0 53 [(0, q_r 70), (1, q_i x1), (2, q_i x2), (3, q_i x3), (4, q_i x4)] [q_i s0] m := by
  unfold B_X8_apart_53 at hF
  refine aw_istore hK [(5, q_i s0), (0, q_r 70), (1, q_i x1), (2, q_i x2), (3, q_i x3), (4, q_i x4)] (by decide) rfl dX8_apart_53 ?_
  refine aw_aload_n hK 1 rfl dX8_apart_55 ?_
  refine aw_iload hK 5 rfl dX8_apart_56 ?_
  refine aw_if_ne hK 65 rfl dX8_apart_58 (fun hc => ?_) (fun hc => ?_)
  · have hF := if_f hF hc
    refine aw_iload hK 0 rfl dX8_apart_65 ?_
    refine aw_if_eq hK 80 rfl dX8_apart_67 (fun hc => ?_) (fun hc => ?_)
    · have hF := if_t hF hc
      refine aw_sub [1, 2, 3, 4] (lv' := [(0, q_r 70), (1, q_i x1), (2, q_i x2), (3, q_i x3)]) rfl ?_
      exact bk_X8_apart_80 hK hR hF
    · have hF := if_f hF hc
      refine aw_aload_n hK 1 rfl dX8_apart_70 ?_
      refine aw_iload_n hK 2 rfl dX8_apart_71 ?_
      refine aw_iload_n hK 3 rfl dX8_apart_72 ?_
      refine aw_iconst hK (3) rfl dX8_apart_73 ?_
      obtain ⟨r15, m14, h13, hF⟩ := cal_some hF
      refine aw_cv hK 8 (as := [q_i x1, q_i x2, q_i (3 : Int32)]) (tr_X8_looks h13) gX8_apart_X8_looks rfl rfl rfl (by decide) (na := 3) (by decide +kernel) rfl ⟨by decide, by decide⟩ (Nat.zero_le _) (Nat.le_of_ble_eq_true rfl) dX8_apart_74 ?_
      refine aw_if_ne hK 84 rfl dX8_apart_77 (fun hc => ?_) (fun hc => ?_)
      · have hF := if_f hF hc
        refine aw_iconst hK (0) rfl dX8_apart_84 ?_
        refine aw_sub [1, 2, 3, 4] (lv' := [(0, q_r 70), (1, q_i x1), (2, q_i x2), (3, q_i x3)]) rfl ?_
        exact bk_X8_apart_85 hK hR hF
      · have hF := if_t hF hc
        refine aw_sub [1, 2, 3, 4] (lv' := [(0, q_r 70), (1, q_i x1), (2, q_i x2), (3, q_i x3)]) rfl ?_
        exact bk_X8_apart_80 hK hR hF
  · have hF := if_t hF hc
    refine aw_iconst hK (1) rfl dX8_apart_61 ?_
    refine aw_goto hK 85 rfl dX8_apart_62 ?_
    refine aw_sub [1, 2, 3, 4] (lv' := [(0, q_r 70), (1, q_i x1), (2, q_i x2), (3, q_i x3)]) rfl ?_
    exact bk_X8_apart_85 hK hR hF
def B_X8_apart_52 (N : Nat) (m : Mem) (x1 : Int32) (x2 : Int32) (x3 : Int32) (x4 : Int32) : Option (Int32 × Mem) :=
  B_X8_apart_53 N m x1 x2 x3 x4 (0 : Int32)
set_option maxRecDepth 100000 in
set_option maxHeartbeats 4000000 in
theorem bk_X8_apart_52 {N : Nat} {K : KT} {m' : Mem} {r : Int32} (hK : KOK K cX8_apart 9 RX8 wsX8_apart 3 0 78) (hR : KRet K (some .int) (some r) m') {m : Mem} {x1 : Int32} {x2 : Int32} {x3 : Int32} {x4 : Int32} (hF : B_X8_apart_52 N m x1 x2 x3 x4 = some (r, m')) : AW K 0 52 [(0, q_r 70), (1, q_i x1), (2, q_i x2), (3, q_i x3), (4, q_i x4)] [] m := by
  unfold B_X8_apart_52 at hF
  refine aw_iconst hK (0) rfl dX8_apart_52 ?_
  refine aw_sub [0, 1, 2, 3, 4] (lv' := [(0, q_r 70), (1, q_i x1), (2, q_i x2), (3, q_i x3), (4, q_i x4)]) rfl ?_
  exact bk_X8_apart_53 hK hR hF
def B_X8_apart_25 (N : Nat) (m : Mem) (x1 : Int32) (x2 : Int32) (x3 : Int32) (s0 : Int32) : Option (Int32 × Mem) :=
  if s0 = (0 : Int32) then (
    B_X8_apart_52 N m x1 x2 x3 s0
  ) else (
    cal (F_X8_isPlainOf N m x1) fun r9 m8 =>
    if r9 = (0 : Int32) then (
      B_X8_apart_52 N m8 x1 x2 x3 s0
    ) else (
      cal (F_X8_isPlainOf N m8 x2) fun r12 m11 =>
      if r12 = (0 : Int32) then (
        B_X8_apart_52 N m11 x1 x2 x3 s0
      ) else (
        B_X8_apart_53 N m11 x1 x2 x3 s0 (1 : Int32)
      )
    )
  )
set_option maxRecDepth 100000 in
set_option maxHeartbeats 4000000 in
theorem bk_X8_apart_25 {N : Nat} {K : KT} {m' : Mem} {r : Int32} (hK : KOK K cX8_apart 9 RX8 wsX8_apart 3 0 78) (hR : KRet K (some .int) (some r) m') {m : Mem} {x1 : Int32} {x2 : Int32} {x3 : Int32} {s0 : Int32} (hF : B_X8_apart_25 N m x1 x2 x3 s0 = some (r, m')) : AW K 0 25 [(0, q_r 70), (1, q_i x1), (2, q_i x2), (3, q_i x3)] [q_i s0] m := by
  unfold B_X8_apart_25 at hF
  refine aw_istore hK [(4, q_i s0), (0, q_r 70), (1, q_i x1), (2, q_i x2), (3, q_i x3)] (by decide) rfl dX8_apart_25 ?_
  refine aw_iload hK 0 rfl dX8_apart_27 ?_
  refine aw_if_eq hK 52 rfl dX8_apart_29 (fun hc => ?_) (fun hc => ?_)
  · have hF := if_t hF hc
    refine aw_sub [1, 2, 3, 4, 0] (lv' := [(0, q_r 70), (1, q_i x1), (2, q_i x2), (3, q_i x3), (4, q_i s0)]) rfl ?_
    exact bk_X8_apart_52 hK hR hF
  · have hF := if_f hF hc
    refine aw_aload_n hK 1 rfl dX8_apart_32 ?_
    refine aw_iload_n hK 2 rfl dX8_apart_33 ?_
    obtain ⟨r9, m8, h7, hF⟩ := cal_some hF
    refine aw_cv hK 8 (as := [q_i x1]) (tr_X8_isPlainOf h7) gX8_apart_X8_isPlainOf rfl rfl rfl (by decide) (na := 1) (by decide +kernel) rfl ⟨by decide, by decide⟩ (Nat.zero_le _) (Nat.le_of_ble_eq_true rfl) dX8_apart_34 ?_
    refine aw_if_eq hK 52 rfl dX8_apart_37 (fun hc => ?_) (fun hc => ?_)
    · have hF := if_t hF hc
      refine aw_sub [1, 2, 3, 4, 0] (lv' := [(0, q_r 70), (1, q_i x1), (2, q_i x2), (3, q_i x3), (4, q_i s0)]) rfl ?_
      exact bk_X8_apart_52 hK hR hF
    · have hF := if_f hF hc
      refine aw_aload_n hK 1 rfl dX8_apart_40 ?_
      refine aw_iload_n hK 3 rfl dX8_apart_41 ?_
      obtain ⟨r12, m11, h10, hF⟩ := cal_some hF
      refine aw_cv hK 8 (as := [q_i x2]) (tr_X8_isPlainOf h10) gX8_apart_X8_isPlainOf rfl rfl rfl (by decide) (na := 1) (by decide +kernel) rfl ⟨by decide, by decide⟩ (Nat.zero_le _) (Nat.le_of_ble_eq_true rfl) dX8_apart_42 ?_
      refine aw_if_eq hK 52 rfl dX8_apart_45 (fun hc => ?_) (fun hc => ?_)
      · have hF := if_t hF hc
        refine aw_sub [1, 2, 3, 4, 0] (lv' := [(0, q_r 70), (1, q_i x1), (2, q_i x2), (3, q_i x3), (4, q_i s0)]) rfl ?_
        exact bk_X8_apart_52 hK hR hF
      · have hF := if_f hF hc
        refine aw_iconst hK (1) rfl dX8_apart_48 ?_
        refine aw_goto hK 53 rfl dX8_apart_49 ?_
        refine aw_sub [1, 2, 3, 4, 0] (lv' := [(0, q_r 70), (1, q_i x1), (2, q_i x2), (3, q_i x3), (4, q_i s0)]) rfl ?_
        exact bk_X8_apart_53 hK hR hF
def B_X8_apart_24 (N : Nat) (m : Mem) (x1 : Int32) (x2 : Int32) (x3 : Int32) : Option (Int32 × Mem) :=
  B_X8_apart_25 N m x1 x2 x3 (0 : Int32)
set_option maxRecDepth 100000 in
set_option maxHeartbeats 4000000 in
theorem bk_X8_apart_24 {N : Nat} {K : KT} {m' : Mem} {r : Int32} (hK : KOK K cX8_apart 9 RX8 wsX8_apart 3 0 78) (hR : KRet K (some .int) (some r) m') {m : Mem} {x1 : Int32} {x2 : Int32} {x3 : Int32} (hF : B_X8_apart_24 N m x1 x2 x3 = some (r, m')) : AW K 0 24 [(0, q_r 70), (1, q_i x1), (2, q_i x2), (3, q_i x3)] [] m := by
  unfold B_X8_apart_24 at hF
  refine aw_iconst hK (0) rfl dX8_apart_24 ?_
  refine aw_sub [0, 1, 2, 3] (lv' := [(0, q_r 70), (1, q_i x1), (2, q_i x2), (3, q_i x3)]) rfl ?_
  exact bk_X8_apart_25 hK hR hF
def F_X8_apart (N : Nat) (m : Mem) (x1 : Int32) (x2 : Int32) (x3 : Int32) : Option (Int32 × Mem) :=
  cal (F_X8_isMachine N m x1) fun r3 m2 =>
  if r3 = (0 : Int32) then (
    B_X8_apart_24 N m2 x1 x2 x3
  ) else (
    cal (F_X8_isMachine N m2 x2) fun r6 m5 =>
    if r6 = (0 : Int32) then (
      B_X8_apart_24 N m5 x1 x2 x3
    ) else (
      if x3 < (0 : Int32) then (
        B_X8_apart_24 N m5 x1 x2 x3
      ) else (
        B_X8_apart_25 N m5 x1 x2 x3 (1 : Int32)
      )
    )
  )
set_option maxRecDepth 100000 in
set_option maxHeartbeats 4000000 in
theorem tr_X8_apart {N : Nat} {m m' : Mem} {r : Int32} {x1 : Int32} {x2 : Int32} {x3 : Int32} (hF : F_X8_apart N m x1 x2 x3 = some (r, m')) : Tr yX8_apart wsX8_apart 3 78 [q_r 70, q_i x1, q_i x2, q_i x3] m (some r) m' := by
  refine tr_of (bytes := cX8_apart) (maxL := 9) (ret := (some .int)) (by decide) rfl (Nat.le_of_ble_eq_true rfl) (fun K hK hR => ?_)
  have hK : KOK K cX8_apart 9 RX8 wsX8_apart 3 0 78 := hK
  show AW K 0 0 [(0, q_r 70), (1, q_i x1), (2, q_i x2), (3, q_i x3)] [] m
  unfold F_X8_apart at hF
  refine aw_aload_n hK 0 rfl dX8_apart_0 ?_
  refine aw_iload_n hK 1 rfl dX8_apart_1 ?_
  obtain ⟨r3, m2, h1, hF⟩ := cal_some hF
  refine aw_cv hK 8 (as := [q_i x1]) (tr_X8_isMachine h1) gX8_apart_X8_isMachine rfl rfl rfl (by decide) (na := 1) (by decide +kernel) rfl ⟨by decide, by decide⟩ (Nat.zero_le _) (Nat.le_of_ble_eq_true rfl) dX8_apart_2 ?_
  refine aw_if_eq hK 24 rfl dX8_apart_5 (fun hc => ?_) (fun hc => ?_)
  · have hF := if_t hF hc
    refine aw_sub [0, 1, 2, 3] (lv' := [(0, q_r 70), (1, q_i x1), (2, q_i x2), (3, q_i x3)]) rfl ?_
    exact bk_X8_apart_24 hK hR hF
  · have hF := if_f hF hc
    refine aw_aload_n hK 0 rfl dX8_apart_8 ?_
    refine aw_iload_n hK 2 rfl dX8_apart_9 ?_
    obtain ⟨r6, m5, h4, hF⟩ := cal_some hF
    refine aw_cv hK 8 (as := [q_i x2]) (tr_X8_isMachine h4) gX8_apart_X8_isMachine rfl rfl rfl (by decide) (na := 1) (by decide +kernel) rfl ⟨by decide, by decide⟩ (Nat.zero_le _) (Nat.le_of_ble_eq_true rfl) dX8_apart_10 ?_
    refine aw_if_eq hK 24 rfl dX8_apart_13 (fun hc => ?_) (fun hc => ?_)
    · have hF := if_t hF hc
      refine aw_sub [0, 1, 2, 3] (lv' := [(0, q_r 70), (1, q_i x1), (2, q_i x2), (3, q_i x3)]) rfl ?_
      exact bk_X8_apart_24 hK hR hF
    · have hF := if_f hF hc
      refine aw_iload_n hK 3 rfl dX8_apart_16 ?_
      refine aw_if_lt hK 24 rfl dX8_apart_17 (fun hc => ?_) (fun hc => ?_)
      · have hF := if_t hF hc
        refine aw_sub [0, 1, 2, 3] (lv' := [(0, q_r 70), (1, q_i x1), (2, q_i x2), (3, q_i x3)]) rfl ?_
        exact bk_X8_apart_24 hK hR hF
      · have hF := if_f hF hc
        refine aw_iconst hK (1) rfl dX8_apart_20 ?_
        refine aw_goto hK 25 rfl dX8_apart_21 ?_
        refine aw_sub [0, 1, 2, 3] (lv' := [(0, q_r 70), (1, q_i x1), (2, q_i x2), (3, q_i x3)]) rfl ?_
        exact bk_X8_apart_25 hK hR hF
def B_X8_ruled_182 (N : Nat) (rec_40 : Mem → Int32 → Int32 → Int32 → Int32 → Int32 → Int32 → Int32 → Option (Int32 × Mem)) (m : Mem) (x1 : Int32) (x2 : Int32) (x3 : Int32) (x4 : Int32) (x5 : Int32) (x7 : Int32) (s0 : Int32) (s1 : Int32) : Option (Int32 × Mem) :=
  bnd (s1 + s0) fun y7 =>
  bnd (x7 + (1 : Int32)) fun y8 =>
  rec_40 m x1 x2 x3 x4 x5 y7 y8
set_option maxRecDepth 100000 in
set_option maxHeartbeats 4000000 in
theorem bk_X8_ruled_182 {N : Nat} {K : KT} {m' : Mem} {rec_40 : Mem → Int32 → Int32 → Int32 → Int32 → Int32 → Int32 → Int32 → Option (Int32 × Mem)} {r : Int32} (hK : KOK K cX8_ruled 11 RX8 wsX8_ruled 2 0 45) (hR : KRet K (some .int) (some r) m') (hrec_40 : ∀ {m : Mem} {x1 : Int32} {x2 : Int32} {x3 : Int32} {x4 : Int32} {x5 : Int32} {x6 : Int32} {x7 : Int32}, rec_40 m x1 x2 x3 x4 x5 x6 x7 = some (r, m') → AW K 0 40 [(0, q_r 70), (1, q_i x1), (2, q_i x2), (3, q_i x3), (4, q_i x4), (5, q_i x5), (6, q_i x6), (7, q_i x7)] [] m) {m : Mem} {x1 : Int32} {x2 : Int32} {x3 : Int32} {x4 : Int32} {x5 : Int32} {x7 : Int32} {s0 : Int32} {s1 : Int32} (hF : B_X8_ruled_182 N rec_40 m x1 x2 x3 x4 x5 x7 s0 s1 = some (r, m')) : AW K 0 182 [(0, q_r 70), (1, q_i x1), (2, q_i x2), (3, q_i x3), (4, q_i x4), (5, q_i x5), (7, q_i x7)] [q_i s0, q_i s1] m := by
  unfold B_X8_ruled_182 at hF
  refine aw_iadd hK dX8_ruled_182 ?_
  obtain ⟨y7, hy7, hF⟩ := bnd_some hF
  refine aw_nm hy7 ?_
  refine aw_istore hK [(6, q_i y7), (0, q_r 70), (1, q_i x1), (2, q_i x2), (3, q_i x3), (4, q_i x4), (5, q_i x5), (7, q_i x7)] (by decide) rfl dX8_ruled_183 ?_
  obtain ⟨y8, hy8, hF⟩ := bnd_some hF
  refine aw_iinc hK (cz := 1) 7 [(7, q_i y8), (6, q_i y7), (0, q_r 70), (1, q_i x1), (2, q_i x2), (3, q_i x3), (4, q_i x4), (5, q_i x5)] (by decide) rfl rfl hy8 rfl dX8_ruled_185 ?_
  refine aw_goto hK 40 rfl dX8_ruled_188 ?_
  refine aw_sub [2, 3, 4, 5, 6, 7, 1, 0] (lv' := [(0, q_r 70), (1, q_i x1), (2, q_i x2), (3, q_i x3), (4, q_i x4), (5, q_i x5), (6, q_i y7), (7, q_i y8)]) rfl ?_
  exact hrec_40 hF
def B_X8_ruled_168 (N : Nat) (rec_40 : Mem → Int32 → Int32 → Int32 → Int32 → Int32 → Int32 → Int32 → Option (Int32 × Mem)) (m : Mem) (x1 : Int32) (x2 : Int32) (x3 : Int32) (x4 : Int32) (x5 : Int32) (x6 : Int32) (x7 : Int32) (x10 : Int32) : Option (Int32 × Mem) :=
  if x10 = (8 : Int32) then (
    B_X8_ruled_182 N rec_40 m x1 x2 x3 x4 x5 x7 (0 : Int32) x6
  ) else (
    B_X8_ruled_182 N rec_40 m x1 x2 x3 x4 x5 x7 (1 : Int32) x6
  )
set_option maxRecDepth 100000 in
set_option maxHeartbeats 4000000 in
theorem bk_X8_ruled_168 {N : Nat} {K : KT} {m' : Mem} {rec_40 : Mem → Int32 → Int32 → Int32 → Int32 → Int32 → Int32 → Int32 → Option (Int32 × Mem)} {r : Int32} (hK : KOK K cX8_ruled 11 RX8 wsX8_ruled 2 0 45) (hR : KRet K (some .int) (some r) m') (hrec_40 : ∀ {m : Mem} {x1 : Int32} {x2 : Int32} {x3 : Int32} {x4 : Int32} {x5 : Int32} {x6 : Int32} {x7 : Int32}, rec_40 m x1 x2 x3 x4 x5 x6 x7 = some (r, m') → AW K 0 40 [(0, q_r 70), (1, q_i x1), (2, q_i x2), (3, q_i x3), (4, q_i x4), (5, q_i x5), (6, q_i x6), (7, q_i x7)] [] m) {m : Mem} {x1 : Int32} {x2 : Int32} {x3 : Int32} {x4 : Int32} {x5 : Int32} {x6 : Int32} {x7 : Int32} {x10 : Int32} (hF : B_X8_ruled_168 N rec_40 m x1 x2 x3 x4 x5 x6 x7 x10 = some (r, m')) : AW K 0 168 [(0, q_r 70), (1, q_i x1), (2, q_i x2), (3, q_i x3), (4, q_i x4), (5, q_i x5), (6, q_i x6), (7, q_i x7), (10, q_i x10)] [] m := by
  unfold B_X8_ruled_168 at hF
  refine aw_iload hK 6 rfl dX8_ruled_168 ?_
  refine aw_iload hK 8 rfl dX8_ruled_170 ?_
  refine aw_bipush hK (8) rfl dX8_ruled_172 ?_
  refine aw_icmp_ne hK 181 rfl dX8_ruled_174 (fun hc => ?_) (fun hc => ?_)
  · have hF := if_f hF hc
    refine aw_iconst hK (1) rfl dX8_ruled_181 ?_
    refine aw_sub [0, 1, 2, 3, 4, 5, 7] (lv' := [(0, q_r 70), (1, q_i x1), (2, q_i x2), (3, q_i x3), (4, q_i x4), (5, q_i x5), (7, q_i x7)]) rfl ?_
    exact bk_X8_ruled_182 hK hR hrec_40 hF
  · have hF := if_t hF hc
    refine aw_iconst hK (0) rfl dX8_ruled_177 ?_
    refine aw_goto hK 182 rfl dX8_ruled_178 ?_
    refine aw_sub [0, 1, 2, 3, 4, 5, 7] (lv' := [(0, q_r 70), (1, q_i x1), (2, q_i x2), (3, q_i x3), (4, q_i x4), (5, q_i x5), (7, q_i x7)]) rfl ?_
    exact bk_X8_ruled_182 hK hR hrec_40 hF
def B_X8_ruled_149 (N : Nat) (rec_40 : Mem → Int32 → Int32 → Int32 → Int32 → Int32 → Int32 → Int32 → Option (Int32 × Mem)) (m : Mem) (x1 : Int32) (x2 : Int32) (x3 : Int32) (x4 : Int32) (x5 : Int32) (x6 : Int32) (x7 : Int32) (s0 : Int32) : Option (Int32 × Mem) :=
  if s0 = (8 : Int32) then (
    B_X8_ruled_168 N rec_40 m x1 x2 x3 x4 x5 x6 x7 s0
  ) else (
    if x6 = x5 then (
      some (s0, m)
    ) else (
      B_X8_ruled_168 N rec_40 m x1 x2 x3 x4 x5 x6 x7 s0
    )
  )
set_option maxRecDepth 100000 in
set_option maxHeartbeats 4000000 in
theorem bk_X8_ruled_149 {N : Nat} {K : KT} {m' : Mem} {rec_40 : Mem → Int32 → Int32 → Int32 → Int32 → Int32 → Int32 → Int32 → Option (Int32 × Mem)} {r : Int32} (hK : KOK K cX8_ruled 11 RX8 wsX8_ruled 2 0 45) (hR : KRet K (some .int) (some r) m') (hrec_40 : ∀ {m : Mem} {x1 : Int32} {x2 : Int32} {x3 : Int32} {x4 : Int32} {x5 : Int32} {x6 : Int32} {x7 : Int32}, rec_40 m x1 x2 x3 x4 x5 x6 x7 = some (r, m') → AW K 0 40 [(0, q_r 70), (1, q_i x1), (2, q_i x2), (3, q_i x3), (4, q_i x4), (5, q_i x5), (6, q_i x6), (7, q_i x7)] [] m) {m : Mem} {x1 : Int32} {x2 : Int32} {x3 : Int32} {x4 : Int32} {x5 : Int32} {x6 : Int32} {x7 : Int32} {s0 : Int32} (hF : B_X8_ruled_149 N rec_40 m x1 x2 x3 x4 x5 x6 x7 s0 = some (r, m')) : AW K 0 149 [(0, q_r 70), (1, q_i x1), (2, q_i x2), (3, q_i x3), (4, q_i x4), (5, q_i x5), (6, q_i x6), (7, q_i x7)] [q_i s0] m := by
  unfold B_X8_ruled_149 at hF
  refine aw_istore hK [(10, q_i s0), (0, q_r 70), (1, q_i x1), (2, q_i x2), (3, q_i x3), (4, q_i x4), (5, q_i x5), (6, q_i x6), (7, q_i x7)] (by decide) rfl dX8_ruled_149 ?_
  refine aw_iload hK 0 rfl dX8_ruled_151 ?_
  refine aw_bipush hK (8) rfl dX8_ruled_153 ?_
  refine aw_icmp_eq hK 168 rfl dX8_ruled_155 (fun hc => ?_) (fun hc => ?_)
  · have hF := if_t hF hc
    refine aw_sub [1, 2, 3, 4, 5, 6, 7, 8, 0] (lv' := [(0, q_r 70), (1, q_i x1), (2, q_i x2), (3, q_i x3), (4, q_i x4), (5, q_i x5), (6, q_i x6), (7, q_i x7), (10, q_i s0)]) rfl ?_
    exact bk_X8_ruled_168 hK hR hrec_40 hF
  · have hF := if_f hF hc
    refine aw_iload hK 7 rfl dX8_ruled_158 ?_
    refine aw_iload hK 6 rfl dX8_ruled_160 ?_
    refine aw_icmp_ne hK 168 rfl dX8_ruled_162 (fun hc => ?_) (fun hc => ?_)
    · have hF := if_f hF hc
      refine aw_sub [1, 2, 3, 4, 5, 6, 7, 8, 0] (lv' := [(0, q_r 70), (1, q_i x1), (2, q_i x2), (3, q_i x3), (4, q_i x4), (5, q_i x5), (6, q_i x6), (7, q_i x7), (10, q_i s0)]) rfl ?_
      exact bk_X8_ruled_168 hK hR hrec_40 hF
    · have hF := if_t hF hc
      refine aw_iload hK 0 rfl dX8_ruled_165 ?_
      obtain ⟨rfl, rfl⟩ := so_inj hF
      exact aw_iret hK hR rfl dX8_ruled_167
def B_X8_ruled_142 (N : Nat) (rec_40 : Mem → Int32 → Int32 → Int32 → Int32 → Int32 → Int32 → Int32 → Option (Int32 × Mem)) (m : Mem) (x1 : Int32) (x2 : Int32) (x3 : Int32) (x4 : Int32) (x5 : Int32) (x6 : Int32) (x7 : Int32) : Option (Int32 × Mem) :=
  gd (inb x7 (alen 71)) <|
  B_X8_ruled_149 N rec_40 m x1 x2 x3 x4 x5 x6 x7 (m 71 (ix x7))
set_option maxRecDepth 100000 in
set_option maxHeartbeats 4000000 in
theorem bk_X8_ruled_142 {N : Nat} {K : KT} {m' : Mem} {rec_40 : Mem → Int32 → Int32 → Int32 → Int32 → Int32 → Int32 → Int32 → Option (Int32 × Mem)} {r : Int32} (hK : KOK K cX8_ruled 11 RX8 wsX8_ruled 2 0 45) (hR : KRet K (some .int) (some r) m') (hrec_40 : ∀ {m : Mem} {x1 : Int32} {x2 : Int32} {x3 : Int32} {x4 : Int32} {x5 : Int32} {x6 : Int32} {x7 : Int32}, rec_40 m x1 x2 x3 x4 x5 x6 x7 = some (r, m') → AW K 0 40 [(0, q_r 70), (1, q_i x1), (2, q_i x2), (3, q_i x3), (4, q_i x4), (5, q_i x5), (6, q_i x6), (7, q_i x7)] [] m) {m : Mem} {x1 : Int32} {x2 : Int32} {x3 : Int32} {x4 : Int32} {x5 : Int32} {x6 : Int32} {x7 : Int32} (hF : B_X8_ruled_142 N rec_40 m x1 x2 x3 x4 x5 x6 x7 = some (r, m')) : AW K 0 142 [(0, q_r 70), (1, q_i x1), (2, q_i x2), (3, q_i x3), (4, q_i x4), (5, q_i x5), (6, q_i x6), (7, q_i x7)] [] m := by
  unfold B_X8_ruled_142 at hF
  refine aw_aload_n hK 0 rfl dX8_ruled_142 ?_
  refine gf_8_1 hK rfl (71) rfl (List.mem_of_getElem? (i := 2) rfl) dX8_ruled_143 ?_
  refine aw_iload hK 7 rfl dX8_ruled_146 ?_
  obtain ⟨g9, hF⟩ := gd_some hF
  refine aw_iald hK rfl g9 dX8_ruled_148 ?_
  refine aw_sub [0, 1, 2, 3, 4, 5, 6, 7] (lv' := [(0, q_r 70), (1, q_i x1), (2, q_i x2), (3, q_i x3), (4, q_i x4), (5, q_i x5), (6, q_i x6), (7, q_i x7)]) rfl ?_
  exact bk_X8_ruled_149 hK hR hrec_40 hF
def B_X8_ruled_115 (N : Nat) (rec_40 : Mem → Int32 → Int32 → Int32 → Int32 → Int32 → Int32 → Int32 → Option (Int32 × Mem)) (m : Mem) (x1 : Int32) (x2 : Int32) (x3 : Int32) (x4 : Int32) (x5 : Int32) (x6 : Int32) (x7 : Int32) (x8 : Int32) (s0 : Int32) : Option (Int32 × Mem) :=
  gd (inb x7 (alen 71)) <|
  if (m 71 (ix x7)) = x1 then (
    if x8 = (0 : Int32) then (
      B_X8_ruled_142 N rec_40 m x1 x2 x3 x4 x5 x6 x7
    ) else (
      if s0 = (0 : Int32) then (
        B_X8_ruled_142 N rec_40 m x1 x2 x3 x4 x5 x6 x7
      ) else (
        B_X8_ruled_149 N rec_40 m x1 x2 x3 x4 x5 x6 x7 x2
      )
    )
  ) else (
    B_X8_ruled_142 N rec_40 m x1 x2 x3 x4 x5 x6 x7
  )
set_option maxRecDepth 100000 in
set_option maxHeartbeats 4000000 in
theorem bk_X8_ruled_115 {N : Nat} {K : KT} {m' : Mem} {rec_40 : Mem → Int32 → Int32 → Int32 → Int32 → Int32 → Int32 → Int32 → Option (Int32 × Mem)} {r : Int32} (hK : KOK K cX8_ruled 11 RX8 wsX8_ruled 2 0 45) (hR : KRet K (some .int) (some r) m') (hrec_40 : ∀ {m : Mem} {x1 : Int32} {x2 : Int32} {x3 : Int32} {x4 : Int32} {x5 : Int32} {x6 : Int32} {x7 : Int32}, rec_40 m x1 x2 x3 x4 x5 x6 x7 = some (r, m') → AW K 0 40 [(0, q_r 70), (1, q_i x1), (2, q_i x2), (3, q_i x3), (4, q_i x4), (5, q_i x5), (6, q_i x6), (7, q_i x7)] [] m) {m : Mem} {x1 : Int32} {x2 : Int32} {x3 : Int32} {x4 : Int32} {x5 : Int32} {x6 : Int32} {x7 : Int32} {x8 : Int32} {s0 : Int32} (hF : B_X8_ruled_115 N rec_40 m x1 x2 x3 x4 x5 x6 x7 x8 s0 = some (r, m')) : AW K 0 115 [(0, q_r 70), (1, q_i x1), (2, q_i x2), (3, q_i x3), (4, q_i x4), (5, q_i x5), (6, q_i x6), (7, q_i x7), (8, q_i x8)] [q_i s0] m := by
  unfold B_X8_ruled_115 at hF
  refine aw_istore hK [(9, q_i s0), (0, q_r 70), (1, q_i x1), (2, q_i x2), (3, q_i x3), (4, q_i x4), (5, q_i x5), (6, q_i x6), (7, q_i x7), (8, q_i x8)] (by decide) rfl dX8_ruled_115 ?_
  refine aw_aload_n hK 1 rfl dX8_ruled_117 ?_
  refine gf_8_1 hK rfl (71) rfl (List.mem_of_getElem? (i := 2) rfl) dX8_ruled_118 ?_
  refine aw_iload hK 8 rfl dX8_ruled_121 ?_
  obtain ⟨g6, hF⟩ := gd_some hF
  refine aw_iald hK rfl g6 dX8_ruled_123 ?_
  refine aw_iload_n hK 2 rfl dX8_ruled_124 ?_
  refine aw_icmp_ne hK 142 rfl dX8_ruled_125 (fun hc => ?_) (fun hc => ?_)
  · have hF := if_f hF hc
    refine aw_sub [1, 2, 3, 4, 5, 6, 7, 8] (lv' := [(0, q_r 70), (1, q_i x1), (2, q_i x2), (3, q_i x3), (4, q_i x4), (5, q_i x5), (6, q_i x6), (7, q_i x7)]) rfl ?_
    exact bk_X8_ruled_142 hK hR hrec_40 hF
  · have hF := if_t hF hc
    refine aw_iload hK 9 rfl dX8_ruled_128 ?_
    refine aw_if_eq hK 142 rfl dX8_ruled_130 (fun hc => ?_) (fun hc => ?_)
    · have hF := if_t hF hc
      refine aw_sub [1, 2, 3, 4, 5, 6, 7, 8] (lv' := [(0, q_r 70), (1, q_i x1), (2, q_i x2), (3, q_i x3), (4, q_i x4), (5, q_i x5), (6, q_i x6), (7, q_i x7)]) rfl ?_
      exact bk_X8_ruled_142 hK hR hrec_40 hF
    · have hF := if_f hF hc
      refine aw_iload hK 0 rfl dX8_ruled_133 ?_
      refine aw_if_eq hK 142 rfl dX8_ruled_135 (fun hc => ?_) (fun hc => ?_)
      · have hF := if_t hF hc
        refine aw_sub [1, 2, 3, 4, 5, 6, 7, 8] (lv' := [(0, q_r 70), (1, q_i x1), (2, q_i x2), (3, q_i x3), (4, q_i x4), (5, q_i x5), (6, q_i x6), (7, q_i x7)]) rfl ?_
        exact bk_X8_ruled_142 hK hR hrec_40 hF
      · have hF := if_f hF hc
        refine aw_iload_n hK 3 rfl dX8_ruled_138 ?_
        refine aw_goto hK 149 rfl dX8_ruled_139 ?_
        refine aw_sub [1, 2, 3, 4, 5, 6, 7, 8] (lv' := [(0, q_r 70), (1, q_i x1), (2, q_i x2), (3, q_i x3), (4, q_i x4), (5, q_i x5), (6, q_i x6), (7, q_i x7)]) rfl ?_
        exact bk_X8_ruled_149 hK hR hrec_40 hF
def B_X8_ruled_114 (N : Nat) (rec_40 : Mem → Int32 → Int32 → Int32 → Int32 → Int32 → Int32 → Int32 → Option (Int32 × Mem)) (m : Mem) (x1 : Int32) (x2 : Int32) (x3 : Int32) (x4 : Int32) (x5 : Int32) (x6 : Int32) (x7 : Int32) (x8 : Int32) : Option (Int32 × Mem) :=
  B_X8_ruled_115 N rec_40 m x1 x2 x3 x4 x5 x6 x7 x8 (0 : Int32)
set_option maxRecDepth 100000 in
set_option maxHeartbeats 4000000 in
theorem bk_X8_ruled_114 {N : Nat} {K : KT} {m' : Mem} {rec_40 : Mem → Int32 → Int32 → Int32 → Int32 → Int32 → Int32 → Int32 → Option (Int32 × Mem)} {r : Int32} (hK : KOK K cX8_ruled 11 RX8 wsX8_ruled 2 0 45) (hR : KRet K (some .int) (some r) m') (hrec_40 : ∀ {m : Mem} {x1 : Int32} {x2 : Int32} {x3 : Int32} {x4 : Int32} {x5 : Int32} {x6 : Int32} {x7 : Int32}, rec_40 m x1 x2 x3 x4 x5 x6 x7 = some (r, m') → AW K 0 40 [(0, q_r 70), (1, q_i x1), (2, q_i x2), (3, q_i x3), (4, q_i x4), (5, q_i x5), (6, q_i x6), (7, q_i x7)] [] m) {m : Mem} {x1 : Int32} {x2 : Int32} {x3 : Int32} {x4 : Int32} {x5 : Int32} {x6 : Int32} {x7 : Int32} {x8 : Int32} (hF : B_X8_ruled_114 N rec_40 m x1 x2 x3 x4 x5 x6 x7 x8 = some (r, m')) : AW K 0 114 [(0, q_r 70), (1, q_i x1), (2, q_i x2), (3, q_i x3), (4, q_i x4), (5, q_i x5), (6, q_i x6), (7, q_i x7), (8, q_i x8)] [] m := by
  unfold B_X8_ruled_114 at hF
  refine aw_iconst hK (0) rfl dX8_ruled_114 ?_
  refine aw_sub [0, 1, 2, 3, 4, 5, 6, 7, 8] (lv' := [(0, q_r 70), (1, q_i x1), (2, q_i x2), (3, q_i x3), (4, q_i x4), (5, q_i x5), (6, q_i x6), (7, q_i x7), (8, q_i x8)]) rfl ?_
  exact bk_X8_ruled_115 hK hR hrec_40 hF
def B_X8_ruled_110 (N : Nat) (rec_40 : Mem → Int32 → Int32 → Int32 → Int32 → Int32 → Int32 → Int32 → Option (Int32 × Mem)) (m : Mem) (x1 : Int32) (x2 : Int32) (x3 : Int32) (x4 : Int32) (x5 : Int32) (x6 : Int32) (x7 : Int32) (x8 : Int32) : Option (Int32 × Mem) :=
  B_X8_ruled_115 N rec_40 m x1 x2 x3 x4 x5 x6 x7 x8 (1 : Int32)
set_option maxRecDepth 100000 in
set_option maxHeartbeats 4000000 in
theorem bk_X8_ruled_110 {N : Nat} {K : KT} {m' : Mem} {rec_40 : Mem → Int32 → Int32 → Int32 → Int32 → Int32 → Int32 → Int32 → Option (Int32 × Mem)} {r : Int32} (hK : KOK K cX8_ruled 11 RX8 wsX8_ruled 2 0 45) (hR : KRet K (some .int) (some r) m') (hrec_40 : ∀ {m : Mem} {x1 : Int32} {x2 : Int32} {x3 : Int32} {x4 : Int32} {x5 : Int32} {x6 : Int32} {x7 : Int32}, rec_40 m x1 x2 x3 x4 x5 x6 x7 = some (r, m') → AW K 0 40 [(0, q_r 70), (1, q_i x1), (2, q_i x2), (3, q_i x3), (4, q_i x4), (5, q_i x5), (6, q_i x6), (7, q_i x7)] [] m) {m : Mem} {x1 : Int32} {x2 : Int32} {x3 : Int32} {x4 : Int32} {x5 : Int32} {x6 : Int32} {x7 : Int32} {x8 : Int32} (hF : B_X8_ruled_110 N rec_40 m x1 x2 x3 x4 x5 x6 x7 x8 = some (r, m')) : AW K 0 110 [(0, q_r 70), (1, q_i x1), (2, q_i x2), (3, q_i x3), (4, q_i x4), (5, q_i x5), (6, q_i x6), (7, q_i x7), (8, q_i x8)] [] m := by
  unfold B_X8_ruled_110 at hF
  refine aw_iconst hK (1) rfl dX8_ruled_110 ?_
  refine aw_goto hK 115 rfl dX8_ruled_111 ?_
  refine aw_sub [0, 1, 2, 3, 4, 5, 6, 7, 8] (lv' := [(0, q_r 70), (1, q_i x1), (2, q_i x2), (3, q_i x3), (4, q_i x4), (5, q_i x5), (6, q_i x6), (7, q_i x7), (8, q_i x8)]) rfl ?_
  exact bk_X8_ruled_115 hK hR hrec_40 hF
def B_X8_ruled_77 (N : Nat) (rec_40 : Mem → Int32 → Int32 → Int32 → Int32 → Int32 → Int32 → Int32 → Option (Int32 × Mem)) (m : Mem) (x1 : Int32) (x2 : Int32) (x3 : Int32) (x4 : Int32) (x5 : Int32) (x6 : Int32) (x7 : Int32) (s0 : Int32) : Option (Int32 × Mem) :=
  if x4 = (-1 : Int32) then (
    B_X8_ruled_110 N rec_40 m x1 x2 x3 x4 x5 x6 x7 s0
  ) else (
    if (m 70 2) ≤ (x7 + (1 : Int32)) then (
      B_X8_ruled_114 N rec_40 m x1 x2 x3 x4 x5 x6 x7 s0
    ) else (
      gd (inb (x7 + (1 : Int32)) (alen 71)) <|
      if (m 71 (ix (x7 + (1 : Int32)))) = x4 then (
        B_X8_ruled_110 N rec_40 m x1 x2 x3 x4 x5 x6 x7 s0
      ) else (
        B_X8_ruled_114 N rec_40 m x1 x2 x3 x4 x5 x6 x7 s0
      )
    )
  )
set_option maxRecDepth 100000 in
set_option maxHeartbeats 4000000 in
theorem bk_X8_ruled_77 {N : Nat} {K : KT} {m' : Mem} {rec_40 : Mem → Int32 → Int32 → Int32 → Int32 → Int32 → Int32 → Int32 → Option (Int32 × Mem)} {r : Int32} (hK : KOK K cX8_ruled 11 RX8 wsX8_ruled 2 0 45) (hR : KRet K (some .int) (some r) m') (hrec_40 : ∀ {m : Mem} {x1 : Int32} {x2 : Int32} {x3 : Int32} {x4 : Int32} {x5 : Int32} {x6 : Int32} {x7 : Int32}, rec_40 m x1 x2 x3 x4 x5 x6 x7 = some (r, m') → AW K 0 40 [(0, q_r 70), (1, q_i x1), (2, q_i x2), (3, q_i x3), (4, q_i x4), (5, q_i x5), (6, q_i x6), (7, q_i x7)] [] m) {m : Mem} {x1 : Int32} {x2 : Int32} {x3 : Int32} {x4 : Int32} {x5 : Int32} {x6 : Int32} {x7 : Int32} {s0 : Int32} (hF : B_X8_ruled_77 N rec_40 m x1 x2 x3 x4 x5 x6 x7 s0 = some (r, m')) : AW K 0 77 [(0, q_r 70), (1, q_i x1), (2, q_i x2), (3, q_i x3), (4, q_i x4), (5, q_i x5), (6, q_i x6), (7, q_i x7)] [q_i s0] m := by
  unfold B_X8_ruled_77 at hF
  refine aw_istore hK [(8, q_i s0), (0, q_r 70), (1, q_i x1), (2, q_i x2), (3, q_i x3), (4, q_i x4), (5, q_i x5), (6, q_i x6), (7, q_i x7)] (by decide) rfl dX8_ruled_77 ?_
  refine aw_iload hK 5 rfl dX8_ruled_79 ?_
  refine aw_iconst hK (-1) rfl dX8_ruled_81 ?_
  refine aw_icmp_eq hK 110 rfl dX8_ruled_82 (fun hc => ?_) (fun hc => ?_)
  · have hF := if_t hF hc
    refine aw_sub [1, 2, 3, 4, 5, 6, 7, 8, 0] (lv' := [(0, q_r 70), (1, q_i x1), (2, q_i x2), (3, q_i x3), (4, q_i x4), (5, q_i x5), (6, q_i x6), (7, q_i x7), (8, q_i s0)]) rfl ?_
    exact bk_X8_ruled_110 hK hR hrec_40 hF
  · have hF := if_f hF hc
    refine aw_iload hK 8 rfl dX8_ruled_85 ?_
    refine aw_iconst hK (1) rfl dX8_ruled_87 ?_
    refine aw_iadd hK dX8_ruled_88 ?_
    refine aw_aload_n hK 1 rfl dX8_ruled_89 ?_
    refine gf_8_2 hK rfl (List.mem_of_getElem? (i := 1) rfl) dX8_ruled_90 ?_
    refine aw_icmp_ge hK 114 rfl dX8_ruled_93 (fun hc => ?_) (fun hc => ?_)
    · have hF := if_t hF hc
      refine aw_sub [1, 2, 3, 4, 5, 6, 7, 8, 0] (lv' := [(0, q_r 70), (1, q_i x1), (2, q_i x2), (3, q_i x3), (4, q_i x4), (5, q_i x5), (6, q_i x6), (7, q_i x7), (8, q_i s0)]) rfl ?_
      exact bk_X8_ruled_114 hK hR hrec_40 hF
    · have hF := if_f hF hc
      refine aw_aload_n hK 1 rfl dX8_ruled_96 ?_
      refine gf_8_1 hK rfl (71) rfl (List.mem_of_getElem? (i := 2) rfl) dX8_ruled_97 ?_
      refine aw_iload hK 8 rfl dX8_ruled_100 ?_
      refine aw_iconst hK (1) rfl dX8_ruled_102 ?_
      refine aw_iadd hK dX8_ruled_103 ?_
      obtain ⟨g5, hF⟩ := gd_some hF
      refine aw_iald hK rfl g5 dX8_ruled_104 ?_
      refine aw_iload hK 5 rfl dX8_ruled_105 ?_
      refine aw_icmp_ne hK 114 rfl dX8_ruled_107 (fun hc => ?_) (fun hc => ?_)
      · have hF := if_f hF hc
        refine aw_sub [1, 2, 3, 4, 5, 6, 7, 8, 0] (lv' := [(0, q_r 70), (1, q_i x1), (2, q_i x2), (3, q_i x3), (4, q_i x4), (5, q_i x5), (6, q_i x6), (7, q_i x7), (8, q_i s0)]) rfl ?_
        exact bk_X8_ruled_114 hK hR hrec_40 hF
      · have hF := if_t hF hc
        refine aw_sub [1, 2, 3, 4, 5, 6, 7, 8, 0] (lv' := [(0, q_r 70), (1, q_i x1), (2, q_i x2), (3, q_i x3), (4, q_i x4), (5, q_i x5), (6, q_i x6), (7, q_i x7), (8, q_i s0)]) rfl ?_
        exact bk_X8_ruled_110 hK hR hrec_40 hF
def B_X8_ruled_76 (N : Nat) (rec_40 : Mem → Int32 → Int32 → Int32 → Int32 → Int32 → Int32 → Int32 → Option (Int32 × Mem)) (m : Mem) (x1 : Int32) (x2 : Int32) (x3 : Int32) (x4 : Int32) (x5 : Int32) (x6 : Int32) (x7 : Int32) : Option (Int32 × Mem) :=
  B_X8_ruled_77 N rec_40 m x1 x2 x3 x4 x5 x6 x7 (0 : Int32)
set_option maxRecDepth 100000 in
set_option maxHeartbeats 4000000 in
theorem bk_X8_ruled_76 {N : Nat} {K : KT} {m' : Mem} {rec_40 : Mem → Int32 → Int32 → Int32 → Int32 → Int32 → Int32 → Int32 → Option (Int32 × Mem)} {r : Int32} (hK : KOK K cX8_ruled 11 RX8 wsX8_ruled 2 0 45) (hR : KRet K (some .int) (some r) m') (hrec_40 : ∀ {m : Mem} {x1 : Int32} {x2 : Int32} {x3 : Int32} {x4 : Int32} {x5 : Int32} {x6 : Int32} {x7 : Int32}, rec_40 m x1 x2 x3 x4 x5 x6 x7 = some (r, m') → AW K 0 40 [(0, q_r 70), (1, q_i x1), (2, q_i x2), (3, q_i x3), (4, q_i x4), (5, q_i x5), (6, q_i x6), (7, q_i x7)] [] m) {m : Mem} {x1 : Int32} {x2 : Int32} {x3 : Int32} {x4 : Int32} {x5 : Int32} {x6 : Int32} {x7 : Int32} (hF : B_X8_ruled_76 N rec_40 m x1 x2 x3 x4 x5 x6 x7 = some (r, m')) : AW K 0 76 [(0, q_r 70), (1, q_i x1), (2, q_i x2), (3, q_i x3), (4, q_i x4), (5, q_i x5), (6, q_i x6), (7, q_i x7)] [] m := by
  unfold B_X8_ruled_76 at hF
  refine aw_iconst hK (0) rfl dX8_ruled_76 ?_
  refine aw_sub [0, 1, 2, 3, 4, 5, 6, 7] (lv' := [(0, q_r 70), (1, q_i x1), (2, q_i x2), (3, q_i x3), (4, q_i x4), (5, q_i x5), (6, q_i x6), (7, q_i x7)]) rfl ?_
  exact bk_X8_ruled_77 hK hR hrec_40 hF
def B_X8_ruled_72 (N : Nat) (rec_40 : Mem → Int32 → Int32 → Int32 → Int32 → Int32 → Int32 → Int32 → Option (Int32 × Mem)) (m : Mem) (x1 : Int32) (x2 : Int32) (x3 : Int32) (x4 : Int32) (x5 : Int32) (x6 : Int32) (x7 : Int32) : Option (Int32 × Mem) :=
  B_X8_ruled_77 N rec_40 m x1 x2 x3 x4 x5 x6 x7 (1 : Int32)
set_option maxRecDepth 100000 in
set_option maxHeartbeats 4000000 in
theorem bk_X8_ruled_72 {N : Nat} {K : KT} {m' : Mem} {rec_40 : Mem → Int32 → Int32 → Int32 → Int32 → Int32 → Int32 → Int32 → Option (Int32 × Mem)} {r : Int32} (hK : KOK K cX8_ruled 11 RX8 wsX8_ruled 2 0 45) (hR : KRet K (some .int) (some r) m') (hrec_40 : ∀ {m : Mem} {x1 : Int32} {x2 : Int32} {x3 : Int32} {x4 : Int32} {x5 : Int32} {x6 : Int32} {x7 : Int32}, rec_40 m x1 x2 x3 x4 x5 x6 x7 = some (r, m') → AW K 0 40 [(0, q_r 70), (1, q_i x1), (2, q_i x2), (3, q_i x3), (4, q_i x4), (5, q_i x5), (6, q_i x6), (7, q_i x7)] [] m) {m : Mem} {x1 : Int32} {x2 : Int32} {x3 : Int32} {x4 : Int32} {x5 : Int32} {x6 : Int32} {x7 : Int32} (hF : B_X8_ruled_72 N rec_40 m x1 x2 x3 x4 x5 x6 x7 = some (r, m')) : AW K 0 72 [(0, q_r 70), (1, q_i x1), (2, q_i x2), (3, q_i x3), (4, q_i x4), (5, q_i x5), (6, q_i x6), (7, q_i x7)] [] m := by
  unfold B_X8_ruled_72 at hF
  refine aw_iconst hK (1) rfl dX8_ruled_72 ?_
  refine aw_goto hK 77 rfl dX8_ruled_73 ?_
  refine aw_sub [0, 1, 2, 3, 4, 5, 6, 7] (lv' := [(0, q_r 70), (1, q_i x1), (2, q_i x2), (3, q_i x3), (4, q_i x4), (5, q_i x5), (6, q_i x6), (7, q_i x7)]) rfl ?_
  exact bk_X8_ruled_77 hK hR hrec_40 hF
def S_X8_ruled_40 (N : Nat) (rec_40 : Mem → Int32 → Int32 → Int32 → Int32 → Int32 → Int32 → Int32 → Option (Int32 × Mem)) (m : Mem) (x1 : Int32) (x2 : Int32) (x3 : Int32) (x4 : Int32) (x5 : Int32) (x6 : Int32) (x7 : Int32) : Option (Int32 × Mem) :=
  if (m 70 2) ≤ x7 then (
    some ((8 : Int32), m)
  ) else (
    if x3 = (-1 : Int32) then (
      B_X8_ruled_72 N rec_40 m x1 x2 x3 x4 x5 x6 x7
    ) else (
      if x7 ≤ (0 : Int32) then (
        B_X8_ruled_76 N rec_40 m x1 x2 x3 x4 x5 x6 x7
      ) else (
        gd (inb (x7 - (1 : Int32)) (alen 71)) <|
        if (m 71 (ix (x7 - (1 : Int32)))) = x3 then (
          B_X8_ruled_72 N rec_40 m x1 x2 x3 x4 x5 x6 x7
        ) else (
          B_X8_ruled_76 N rec_40 m x1 x2 x3 x4 x5 x6 x7
        )
      )
    )
  )
def L_X8_ruled_40 (N : Nat) : Nat → Mem → Int32 → Int32 → Int32 → Int32 → Int32 → Int32 → Int32 → Option (Int32 × Mem)
  | 0 => fun _ _ _ _ _ _ _ _ => none
  | f + 1 => S_X8_ruled_40 N (L_X8_ruled_40 N f)
set_option maxRecDepth 100000 in
set_option maxHeartbeats 4000000 in
theorem lp_X8_ruled_40 {N : Nat} {K : KT} {m' : Mem} {r : Int32} (hK : KOK K cX8_ruled 11 RX8 wsX8_ruled 2 0 45) (hR : KRet K (some .int) (some r) m') : ∀ (f : Nat) {m : Mem} {x1 : Int32} {x2 : Int32} {x3 : Int32} {x4 : Int32} {x5 : Int32} {x6 : Int32} {x7 : Int32}, L_X8_ruled_40 N f m x1 x2 x3 x4 x5 x6 x7 = some (r, m') → AW K 0 40 [(0, q_r 70), (1, q_i x1), (2, q_i x2), (3, q_i x3), (4, q_i x4), (5, q_i x5), (6, q_i x6), (7, q_i x7)] [] m := by
  intro f
  induction f with
  | zero => intro m x1 x2 x3 x4 x5 x6 x7 hF; cases hF
  | succ f hrec_40 =>
    intro m x1 x2 x3 x4 x5 x6 x7 hF
    have hF : S_X8_ruled_40 N (L_X8_ruled_40 N f) m x1 x2 x3 x4 x5 x6 x7 = some (r, m') := hF
    unfold S_X8_ruled_40 at hF
    refine aw_iload hK 7 rfl dX8_ruled_40 ?_
    refine aw_aload_n hK 0 rfl dX8_ruled_42 ?_
    refine gf_8_2 hK rfl (List.mem_of_getElem? (i := 1) rfl) dX8_ruled_43 ?_
    refine aw_icmp_ge hK 191 rfl dX8_ruled_46 (fun hc => ?_) (fun hc => ?_)
    · have hF := if_t hF hc
      refine aw_bipush hK (8) rfl dX8_ruled_191 ?_
      obtain ⟨rfl, rfl⟩ := so_inj hF
      exact aw_iret hK hR rfl dX8_ruled_193
    · have hF := if_f hF hc
      refine aw_iload_n hK 3 rfl dX8_ruled_49 ?_
      refine aw_iconst hK (-1) rfl dX8_ruled_50 ?_
      refine aw_icmp_eq hK 72 rfl dX8_ruled_51 (fun hc => ?_) (fun hc => ?_)
      · have hF := if_t hF hc
        refine aw_sub [0, 1, 2, 3, 4, 5, 6, 7] (lv' := [(0, q_r 70), (1, q_i x1), (2, q_i x2), (3, q_i x3), (4, q_i x4), (5, q_i x5), (6, q_i x6), (7, q_i x7)]) rfl ?_
        exact bk_X8_ruled_72 hK hR hrec_40 hF
      · have hF := if_f hF hc
        refine aw_iload hK 7 rfl dX8_ruled_54 ?_
        refine aw_if_le hK 76 rfl dX8_ruled_56 (fun hc => ?_) (fun hc => ?_)
        · have hF := if_t hF hc
          refine aw_sub [0, 1, 2, 3, 4, 5, 6, 7] (lv' := [(0, q_r 70), (1, q_i x1), (2, q_i x2), (3, q_i x3), (4, q_i x4), (5, q_i x5), (6, q_i x6), (7, q_i x7)]) rfl ?_
          exact bk_X8_ruled_76 hK hR hrec_40 hF
        · have hF := if_f hF hc
          refine aw_aload_n hK 0 rfl dX8_ruled_59 ?_
          refine gf_8_1 hK rfl (71) rfl (List.mem_of_getElem? (i := 2) rfl) dX8_ruled_60 ?_
          refine aw_iload hK 7 rfl dX8_ruled_63 ?_
          refine aw_iconst hK (1) rfl dX8_ruled_65 ?_
          refine aw_isub hK dX8_ruled_66 ?_
          obtain ⟨g4, hF⟩ := gd_some hF
          refine aw_iald hK rfl g4 dX8_ruled_67 ?_
          refine aw_iload_n hK 3 rfl dX8_ruled_68 ?_
          refine aw_icmp_ne hK 76 rfl dX8_ruled_69 (fun hc => ?_) (fun hc => ?_)
          · have hF := if_f hF hc
            refine aw_sub [0, 1, 2, 3, 4, 5, 6, 7] (lv' := [(0, q_r 70), (1, q_i x1), (2, q_i x2), (3, q_i x3), (4, q_i x4), (5, q_i x5), (6, q_i x6), (7, q_i x7)]) rfl ?_
            exact bk_X8_ruled_76 hK hR hrec_40 hF
          · have hF := if_t hF hc
            refine aw_sub [0, 1, 2, 3, 4, 5, 6, 7] (lv' := [(0, q_r 70), (1, q_i x1), (2, q_i x2), (3, q_i x3), (4, q_i x4), (5, q_i x5), (6, q_i x6), (7, q_i x7)]) rfl ?_
            exact bk_X8_ruled_72 hK hR hrec_40 hF
def B_X8_ruled_26 (N : Nat) (m : Mem) (x1 : Int32) (x2 : Int32) (x3 : Int32) (x4 : Int32) (x5 : Int32) (s0 : Int32) : Option (Int32 × Mem) :=
  cal (F_X8_isFine N m s0) fun r3 m2 =>
  if r3 = (0 : Int32) then (
    some ((0 : Int32), m2)
  ) else (
    L_X8_ruled_40 N N m2 x1 x2 x3 x4 x5 (0 : Int32) (0 : Int32)
  )
set_option maxRecDepth 100000 in
set_option maxHeartbeats 4000000 in
theorem bk_X8_ruled_26 {N : Nat} {K : KT} {m' : Mem} {r : Int32} (hK : KOK K cX8_ruled 11 RX8 wsX8_ruled 2 0 45) (hR : KRet K (some .int) (some r) m') {m : Mem} {x1 : Int32} {x2 : Int32} {x3 : Int32} {x4 : Int32} {x5 : Int32} {s0 : Int32} (hF : B_X8_ruled_26 N m x1 x2 x3 x4 x5 s0 = some (r, m')) : AW K 0 26 [(0, q_r 70), (1, q_i x1), (2, q_i x2), (3, q_i x3), (4, q_i x4), (5, q_i x5)] [q_i s0, q_r 70] m := by
  unfold B_X8_ruled_26 at hF
  obtain ⟨r3, m2, h1, hF⟩ := cal_some hF
  refine aw_cv hK 8 (as := [q_i s0]) (tr_X8_isFine h1) gX8_ruled_X8_isFine rfl rfl rfl (by decide) (na := 1) (by decide +kernel) rfl ⟨by decide, by decide⟩ (Nat.zero_le _) (Nat.le_of_ble_eq_true rfl) dX8_ruled_26 ?_
  refine aw_if_ne hK 34 rfl dX8_ruled_29 (fun hc => ?_) (fun hc => ?_)
  · have hF := if_f hF hc
    refine aw_iconst hK (0) rfl dX8_ruled_34 ?_
    refine aw_istore hK [(6, q_i (0 : Int32)), (0, q_r 70), (1, q_i x1), (2, q_i x2), (3, q_i x3), (4, q_i x4), (5, q_i x5)] (by decide) rfl dX8_ruled_35 ?_
    refine aw_iconst hK (0) rfl dX8_ruled_37 ?_
    refine aw_istore hK [(7, q_i (0 : Int32)), (6, q_i (0 : Int32)), (0, q_r 70), (1, q_i x1), (2, q_i x2), (3, q_i x3), (4, q_i x4), (5, q_i x5)] (by decide) rfl dX8_ruled_38 ?_
    refine aw_sub [2, 3, 4, 5, 6, 7, 1, 0] (lv' := [(0, q_r 70), (1, q_i x1), (2, q_i x2), (3, q_i x3), (4, q_i x4), (5, q_i x5), (6, q_i (0 : Int32)), (7, q_i (0 : Int32))]) rfl ?_
    exact lp_X8_ruled_40 hK hR _ hF
  · have hF := if_t hF hc
    refine aw_iconst hK (0) rfl dX8_ruled_32 ?_
    obtain ⟨rfl, rfl⟩ := so_inj hF
    exact aw_iret hK hR rfl dX8_ruled_33
def F_X8_ruled (N : Nat) (m : Mem) (x1 : Int32) (x2 : Int32) (x3 : Int32) (x4 : Int32) (x5 : Int32) : Option (Int32 × Mem) :=
  if (0 : Int32) ≤ x5 then (
    if (P_X8_isRule x1 x2 x3 x4) = (0 : Int32) then (
      B_X8_ruled_26 N m x1 x2 x3 x4 x5 (2 : Int32)
    ) else (
      B_X8_ruled_26 N m x1 x2 x3 x4 x5 (0 : Int32)
    )
  ) else (
    B_X8_ruled_26 N m x1 x2 x3 x4 x5 (1 : Int32)
  )
set_option maxRecDepth 100000 in
set_option maxHeartbeats 4000000 in
theorem tr_X8_ruled {N : Nat} {m m' : Mem} {r : Int32} {x1 : Int32} {x2 : Int32} {x3 : Int32} {x4 : Int32} {x5 : Int32} (hF : F_X8_ruled N m x1 x2 x3 x4 x5 = some (r, m')) : Tr yX8_ruled wsX8_ruled 2 45 [q_r 70, q_i x1, q_i x2, q_i x3, q_i x4, q_i x5] m (some r) m' := by
  refine tr_of (bytes := cX8_ruled) (maxL := 11) (ret := (some .int)) (by decide) rfl (Nat.le_of_ble_eq_true rfl) (fun K hK hR => ?_)
  have hK : KOK K cX8_ruled 11 RX8 wsX8_ruled 2 0 45 := hK
  show AW K 0 0 [(0, q_r 70), (1, q_i x1), (2, q_i x2), (3, q_i x3), (4, q_i x4), (5, q_i x5)] [] m
  unfold F_X8_ruled at hF
  refine aw_aload_n hK 0 rfl dX8_ruled_0 ?_
  refine aw_iload hK 5 rfl dX8_ruled_1 ?_
  refine aw_if_ge hK 10 rfl dX8_ruled_3 (fun hc => ?_) (fun hc => ?_)
  · have hF := if_t hF hc
    refine aw_iload_n hK 1 rfl dX8_ruled_10 ?_
    refine aw_iload_n hK 2 rfl dX8_ruled_11 ?_
    refine aw_iload_n hK 3 rfl dX8_ruled_12 ?_
    refine aw_iload hK 4 rfl dX8_ruled_13 ?_
    refine aw_cs hK (as := [q_i x1, q_i x2, q_i x3, q_i x4]) (trp_X8_isRule x1 x2 x3 x4 _) gX8_ruled_X8_isRule rfl (na := 4) (by decide +kernel) rfl ⟨by decide, by decide⟩ (Nat.zero_le _) (Nat.le_of_ble_eq_true rfl) dX8_ruled_15 ?_
    refine aw_if_ne hK 25 rfl dX8_ruled_18 (fun hc => ?_) (fun hc => ?_)
    · have hF := if_f hF hc
      refine aw_iconst hK (0) rfl dX8_ruled_25 ?_
      refine aw_sub [0, 1, 2, 3, 4, 5] (lv' := [(0, q_r 70), (1, q_i x1), (2, q_i x2), (3, q_i x3), (4, q_i x4), (5, q_i x5)]) rfl ?_
      exact bk_X8_ruled_26 hK hR hF
    · have hF := if_t hF hc
      refine aw_iconst hK (2) rfl dX8_ruled_21 ?_
      refine aw_goto hK 26 rfl dX8_ruled_22 ?_
      refine aw_sub [0, 1, 2, 3, 4, 5] (lv' := [(0, q_r 70), (1, q_i x1), (2, q_i x2), (3, q_i x3), (4, q_i x4), (5, q_i x5)]) rfl ?_
      exact bk_X8_ruled_26 hK hR hF
  · have hF := if_f hF hc
    refine aw_iconst hK (1) rfl dX8_ruled_6 ?_
    refine aw_goto hK 26 rfl dX8_ruled_7 ?_
    refine aw_sub [0, 1, 2, 3, 4, 5] (lv' := [(0, q_r 70), (1, q_i x1), (2, q_i x2), (3, q_i x3), (4, q_i x4), (5, q_i x5)]) rfl ?_
    exact bk_X8_ruled_26 hK hR hF
