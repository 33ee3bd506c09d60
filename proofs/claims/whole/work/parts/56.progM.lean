def B_X8_rests_266 (N : Nat) (rec_53 : Mem → Int32 → Int32 → Int32 → Option Mem) (rec_66 : Mem → Int32 → Int32 → Int32 → Int32 → Option Mem) (rec_86 : Mem → Int32 → Int32 → Int32 → Int32 → Int32 → Option Mem) (m : Mem) (x1 : Int32) (x2 : Int32) (x3 : Int32) (x4 : Int32) (x5 : Int32) (s0 : Int32) (s1 : Int32) : Option Mem :=
  gd (inb s1 (alen 99)) <|
  bnd (mup m 99 (ix s1) s0) fun m26 =>
  bnd (x5 + (1 : Int32)) fun y27 =>
  rec_86 m26 x1 x2 x3 x4 y27
set_option maxRecDepth 100000 in
set_option maxHeartbeats 4000000 in
theorem bk_X8_rests_266 {N : Nat} {K : KT} {m' : Mem} {rec_53 : Mem → Int32 → Int32 → Int32 → Option Mem} {rec_66 : Mem → Int32 → Int32 → Int32 → Int32 → Option Mem} {rec_86 : Mem → Int32 → Int32 → Int32 → Int32 → Int32 → Option Mem} (hK : KOK K cX8_rests 8 RX8 wsX8_rests 2 0 46) (hR : KRet K none none m') (hrec_53 : ∀ {m : Mem} {x1 : Int32} {x2 : Int32} {x3 : Int32}, rec_53 m x1 x2 x3 = some m' → AW K 0 53 [(0, q_r 70), (1, q_i x1), (2, q_i x2), (3, q_i x3)] [] m) (hrec_66 : ∀ {m : Mem} {x1 : Int32} {x2 : Int32} {x3 : Int32} {x4 : Int32}, rec_66 m x1 x2 x3 x4 = some m' → AW K 0 66 [(0, q_r 70), (1, q_i x1), (2, q_i x2), (3, q_i x3), (4, q_i x4)] [] m) (hrec_86 : ∀ {m : Mem} {x1 : Int32} {x2 : Int32} {x3 : Int32} {x4 : Int32} {x5 : Int32}, rec_86 m x1 x2 x3 x4 x5 = some m' → AW K 0 86 [(0, q_r 70), (1, q_i x1), (2, q_i x2), (3, q_i x3), (4, q_i x4), (5, q_i x5)] [] m) {m : Mem} {x1 : Int32} {x2 : Int32} {x3 : Int32} {x4 : Int32} {x5 : Int32} {s0 : Int32} {s1 : Int32} (hF : B_X8_rests_266 N rec_53 rec_66 rec_86 m x1 x2 x3 x4 x5 s0 s1 = some m') : AW K 0 266 [(0, q_r 70), (1, q_i x1), (2, q_i x2), (3, q_i x3), (4, q_i x4), (5, q_i x5)] [q_i s0, q_i s1, q_r 99] m := by
  unfold B_X8_rests_266 at hF
  obtain ⟨g25, hF⟩ := gd_some hF
  refine aw_iast hK rfl g25 dX8_rests_266 ?_
  obtain ⟨m26, hm26, hF⟩ := bnd_some hF
  refine aw_mm hm26 ?_
  obtain ⟨y27, hy27, hF⟩ := bnd_some hF
  refine aw_iinc hK (cz := 1) 5 [(5, q_i y27), (0, q_r 70), (1, q_i x1), (2, q_i x2), (3, q_i x3), (4, q_i x4)] (by decide) rfl rfl hy27 rfl dX8_rests_267 ?_
  refine aw_goto hK 86 rfl dX8_rests_270 ?_
  refine aw_sub [1, 2, 3, 4, 5, 0] (lv' := [(0, q_r 70), (1, q_i x1), (2, q_i x2), (3, q_i x3), (4, q_i x4), (5, q_i y27)]) rfl ?_
  exact hrec_86 hF
def B_X8_rests_202 (N : Nat) (rec_53 : Mem → Int32 → Int32 → Int32 → Option Mem) (rec_66 : Mem → Int32 → Int32 → Int32 → Int32 → Option Mem) (rec_86 : Mem → Int32 → Int32 → Int32 → Int32 → Int32 → Option Mem) (m : Mem) (x1 : Int32) (x2 : Int32) (x4 : Int32) (x5 : Int32) (x7 : Int32) (s0 : Int32) : Option Mem :=
  gd (inb x4 (alen 75)) <|
  gd (inb x4 (alen 75)) <|
  gd (inb (((32 : Int32) * x5) + (m 75 (ix x4))) (alen 99)) <|
  if (m 99 (ix (((32 : Int32) * x5) + (m 75 (ix x4))))) ≤ x7 then (
    gd (inb x4 (alen 75)) <|
    gd (inb (((32 : Int32) * x5) + (m 75 (ix x4))) (alen 99)) <|
    B_X8_rests_266 N rec_53 rec_66 rec_86 m x1 x2 s0 x4 x5 (m 99 (ix (((32 : Int32) * x5) + (m 75 (ix x4))))) (((32 : Int32) * x5) + (m 75 (ix x4)))
  ) else (
    B_X8_rests_266 N rec_53 rec_66 rec_86 m x1 x2 s0 x4 x5 x7 (((32 : Int32) * x5) + (m 75 (ix x4)))
  )
set_option maxRecDepth 100000 in
set_option maxHeartbeats 4000000 in
theorem bk_X8_rests_202 {N : Nat} {K : KT} {m' : Mem} {rec_53 : Mem → Int32 → Int32 → Int32 → Option Mem} {rec_66 : Mem → Int32 → Int32 → Int32 → Int32 → Option Mem} {rec_86 : Mem → Int32 → Int32 → Int32 → Int32 → Int32 → Option Mem} (hK : KOK K cX8_rests 8 RX8 wsX8_rests 2 0 46) (hR : KRet K none none m') (hrec_53 : ∀ {m : Mem} {x1 : Int32} {x2 : Int32} {x3 : Int32}, rec_53 m x1 x2 x3 = some m' → AW K 0 53 [(0, q_r 70), (1, q_i x1), (2, q_i x2), (3, q_i x3)] [] m) (hrec_66 : ∀ {m : Mem} {x1 : Int32} {x2 : Int32} {x3 : Int32} {x4 : Int32}, rec_66 m x1 x2 x3 x4 = some m' → AW K 0 66 [(0, q_r 70), (1, q_i x1), (2, q_i x2), (3, q_i x3), (4, q_i x4)] [] m) (hrec_86 : ∀ {m : Mem} {x1 : Int32} {x2 : Int32} {x3 : Int32} {x4 : Int32} {x5 : Int32}, rec_86 m x1 x2 x3 x4 x5 = some m' → AW K 0 86 [(0, q_r 70), (1, q_i x1), (2, q_i x2), (3, q_i x3), (4, q_i x4), (5, q_i x5)] [] m) {m : Mem} {x1 : Int32} {x2 : Int32} {x4 : Int32} {x5 : Int32} {x7 : Int32} {s0 : Int32} (hF : B_X8_rests_202 N rec_53 rec_66 rec_86 m x1 x2 x4 x5 x7 s0 = some m') : AW K 0 202 [(0, q_r 70), (1, q_i x1), (2, q_i x2), (4, q_i x4), (5, q_i x5), (7, q_i x7)] [q_i s0] m := by
  unfold B_X8_rests_202 at hF
  refine aw_istore_n hK [(3, q_i s0), (0, q_r 70), (1, q_i x1), (2, q_i x2), (4, q_i x4), (5, q_i x5), (7, q_i x7)] (by decide) rfl dX8_rests_202 ?_
  refine aw_aload_n hK 1 rfl dX8_rests_203 ?_
  refine gf_8_36 hK rfl (99) rfl (List.mem_of_getElem? (i := 1) rfl) dX8_rests_204 ?_
  refine aw_bipush hK (32) rfl dX8_rests_207 ?_
  refine aw_iload hK 5 rfl dX8_rests_209 ?_
  refine aw_imul hK dX8_rests_211 ?_
  refine aw_aload_n hK 1 rfl dX8_rests_212 ?_
  refine gf_8_6 hK rfl (75) rfl (List.mem_of_getElem? (i := 7) rfl) dX8_rests_213 ?_
  refine aw_iload hK 4 rfl dX8_rests_216 ?_
  obtain ⟨g20, hF⟩ := gd_some hF
  refine aw_iald hK rfl g20 dX8_rests_218 ?_
  refine aw_iadd hK dX8_rests_219 ?_
  refine aw_iload hK 6 rfl dX8_rests_220 ?_
  refine aw_aload_n hK 1 rfl dX8_rests_222 ?_
  refine gf_8_36 hK rfl (99) rfl (List.mem_of_getElem? (i := 1) rfl) dX8_rests_223 ?_
  refine aw_bipush hK (32) rfl dX8_rests_226 ?_
  refine aw_iload hK 5 rfl dX8_rests_228 ?_
  refine aw_imul hK dX8_rests_230 ?_
  refine aw_aload_n hK 1 rfl dX8_rests_231 ?_
  refine gf_8_6 hK rfl (75) rfl (List.mem_of_getElem? (i := 7) rfl) dX8_rests_232 ?_
  refine aw_iload hK 4 rfl dX8_rests_235 ?_
  obtain ⟨g21, hF⟩ := gd_some hF
  refine aw_iald hK rfl g21 dX8_rests_237 ?_
  refine aw_iadd hK dX8_rests_238 ?_
  obtain ⟨g22, hF⟩ := gd_some hF
  refine aw_iald hK rfl g22 dX8_rests_239 ?_
  refine aw_icmp_ge hK 248 rfl dX8_rests_240 (fun hc => ?_) (fun hc => ?_)
  · have hF := if_t hF hc
    refine aw_aload_n hK 1 rfl dX8_rests_248 ?_
    refine gf_8_36 hK rfl (99) rfl (List.mem_of_getElem? (i := 1) rfl) dX8_rests_249 ?_
    refine aw_bipush hK (32) rfl dX8_rests_252 ?_
    refine aw_iload hK 5 rfl dX8_rests_254 ?_
    refine aw_imul hK dX8_rests_256 ?_
    refine aw_aload_n hK 1 rfl dX8_rests_257 ?_
    refine gf_8_6 hK rfl (75) rfl (List.mem_of_getElem? (i := 7) rfl) dX8_rests_258 ?_
    refine aw_iload hK 4 rfl dX8_rests_261 ?_
    obtain ⟨g23, hF⟩ := gd_some hF
    refine aw_iald hK rfl g23 dX8_rests_263 ?_
    refine aw_iadd hK dX8_rests_264 ?_
    obtain ⟨g24, hF⟩ := gd_some hF
    refine aw_iald hK rfl g24 dX8_rests_265 ?_
    refine aw_sub [1, 2, 3, 0, 4, 5] (lv' := [(0, q_r 70), (1, q_i x1), (2, q_i x2), (3, q_i s0), (4, q_i x4), (5, q_i x5)]) rfl ?_
    exact bk_X8_rests_266 hK hR hrec_53 hrec_66 hrec_86 hF
  · have hF := if_f hF hc
    refine aw_iload hK 6 rfl dX8_rests_243 ?_
    refine aw_goto hK 266 rfl dX8_rests_245 ?_
    refine aw_sub [1, 2, 3, 0, 4, 5] (lv' := [(0, q_r 70), (1, q_i x1), (2, q_i x2), (3, q_i s0), (4, q_i x4), (5, q_i x5)]) rfl ?_
    exact bk_X8_rests_266 hK hR hrec_53 hrec_66 hrec_86 hF
def B_X8_rests_197 (N : Nat) (rec_53 : Mem → Int32 → Int32 → Int32 → Option Mem) (rec_66 : Mem → Int32 → Int32 → Int32 → Int32 → Option Mem) (rec_86 : Mem → Int32 → Int32 → Int32 → Int32 → Int32 → Option Mem) (m : Mem) (x1 : Int32) (x2 : Int32) (x4 : Int32) (x5 : Int32) (x7 : Int32) : Option Mem :=
  B_X8_rests_202 N rec_53 rec_66 rec_86 m x1 x2 x4 x5 x7 (1 : Int32)
set_option maxRecDepth 100000 in
set_option maxHeartbeats 4000000 in
theorem bk_X8_rests_197 {N : Nat} {K : KT} {m' : Mem} {rec_53 : Mem → Int32 → Int32 → Int32 → Option Mem} {rec_66 : Mem → Int32 → Int32 → Int32 → Int32 → Option Mem} {rec_86 : Mem → Int32 → Int32 → Int32 → Int32 → Int32 → Option Mem} (hK : KOK K cX8_rests 8 RX8 wsX8_rests 2 0 46) (hR : KRet K none none m') (hrec_53 : ∀ {m : Mem} {x1 : Int32} {x2 : Int32} {x3 : Int32}, rec_53 m x1 x2 x3 = some m' → AW K 0 53 [(0, q_r 70), (1, q_i x1), (2, q_i x2), (3, q_i x3)] [] m) (hrec_66 : ∀ {m : Mem} {x1 : Int32} {x2 : Int32} {x3 : Int32} {x4 : Int32}, rec_66 m x1 x2 x3 x4 = some m' → AW K 0 66 [(0, q_r 70), (1, q_i x1), (2, q_i x2), (3, q_i x3), (4, q_i x4)] [] m) (hrec_86 : ∀ {m : Mem} {x1 : Int32} {x2 : Int32} {x3 : Int32} {x4 : Int32} {x5 : Int32}, rec_86 m x1 x2 x3 x4 x5 = some m' → AW K 0 86 [(0, q_r 70), (1, q_i x1), (2, q_i x2), (3, q_i x3), (4, q_i x4), (5, q_i x5)] [] m) {m : Mem} {x1 : Int32} {x2 : Int32} {x4 : Int32} {x5 : Int32} {x7 : Int32} (hF : B_X8_rests_197 N rec_53 rec_66 rec_86 m x1 x2 x4 x5 x7 = some m') : AW K 0 197 [(0, q_r 70), (1, q_i x1), (2, q_i x2), (4, q_i x4), (5, q_i x5), (7, q_i x7)] [] m := by
  unfold B_X8_rests_197 at hF
  refine aw_iconst hK (1) rfl dX8_rests_197 ?_
  refine aw_goto hK 202 rfl dX8_rests_198 ?_
  refine aw_sub [0, 1, 2, 3, 4, 5] (lv' := [(0, q_r 70), (1, q_i x1), (2, q_i x2), (4, q_i x4), (5, q_i x5), (7, q_i x7)]) rfl ?_
  exact bk_X8_rests_202 hK hR hrec_53 hrec_66 hrec_86 hF
def B_X8_rests_168 (N : Nat) (rec_53 : Mem → Int32 → Int32 → Int32 → Option Mem) (rec_66 : Mem → Int32 → Int32 → Int32 → Int32 → Option Mem) (rec_86 : Mem → Int32 → Int32 → Int32 → Int32 → Int32 → Option Mem) (m : Mem) (x1 : Int32) (x2 : Int32) (x3 : Int32) (x4 : Int32) (x5 : Int32) (s0 : Int32) : Option Mem :=
  if x3 = (0 : Int32) then (
    gd (inb x4 (alen 75)) <|
    gd (inb (((32 : Int32) * x5) + (m 75 (ix x4))) (alen 99)) <|
    if (m 99 (ix (((32 : Int32) * x5) + (m 75 (ix x4))))) ≤ s0 then (
      B_X8_rests_202 N rec_53 rec_66 rec_86 m x1 x2 x4 x5 s0 (0 : Int32)
    ) else (
      B_X8_rests_197 N rec_53 rec_66 rec_86 m x1 x2 x4 x5 s0
    )
  ) else (
    B_X8_rests_197 N rec_53 rec_66 rec_86 m x1 x2 x4 x5 s0
  )
set_option maxRecDepth 100000 in
set_option maxHeartbeats 4000000 in
theorem bk_X8_rests_168 {N : Nat} {K : KT} {m' : Mem} {rec_53 : Mem → Int32 → Int32 → Int32 → Option Mem} {rec_66 : Mem → Int32 → Int32 → Int32 → Int32 → Option Mem} {rec_86 : Mem → Int32 → Int32 → Int32 → Int32 → Int32 → Option Mem} (hK : KOK K cX8_rests 8 RX8 wsX8_rests 2 0 46) (hR : KRet K none none m') (hrec_53 : ∀ {m : Mem} {x1 : Int32} {x2 : Int32} {x3 : Int32}, rec_53 m x1 x2 x3 = some m' → AW K 0 53 [(0, q_r 70), (1, q_i x1), (2, q_i x2), (3, q_i x3)] [] m) (hrec_66 : ∀ {m : Mem} {x1 : Int32} {x2 : Int32} {x3 : Int32} {x4 : Int32}, rec_66 m x1 x2 x3 x4 = some m' → AW K 0 66 [(0, q_r 70), (1, q_i x1), (2, q_i x2), (3, q_i x3), (4, q_i x4)] [] m) (hrec_86 : ∀ {m : Mem} {x1 : Int32} {x2 : Int32} {x3 : Int32} {x4 : Int32} {x5 : Int32}, rec_86 m x1 x2 x3 x4 x5 = some m' → AW K 0 86 [(0, q_r 70), (1, q_i x1), (2, q_i x2), (3, q_i x3), (4, q_i x4), (5, q_i x5)] [] m) {m : Mem} {x1 : Int32} {x2 : Int32} {x3 : Int32} {x4 : Int32} {x5 : Int32} {s0 : Int32} (hF : B_X8_rests_168 N rec_53 rec_66 rec_86 m x1 x2 x3 x4 x5 s0 = some m') : AW K 0 168 [(0, q_r 70), (1, q_i x1), (2, q_i x2), (3, q_i x3), (4, q_i x4), (5, q_i x5)] [q_i s0] m := by
  unfold B_X8_rests_168 at hF
  refine aw_istore hK [(7, q_i s0), (0, q_r 70), (1, q_i x1), (2, q_i x2), (3, q_i x3), (4, q_i x4), (5, q_i x5)] (by decide) rfl dX8_rests_168 ?_
  refine aw_iload_n hK 4 rfl dX8_rests_170 ?_
  refine aw_if_ne hK 197 rfl dX8_rests_171 (fun hc => ?_) (fun hc => ?_)
  · have hF := if_f hF hc
    refine aw_sub [1, 2, 3, 5, 6, 0] (lv' := [(0, q_r 70), (1, q_i x1), (2, q_i x2), (4, q_i x4), (5, q_i x5), (7, q_i s0)]) rfl ?_
    exact bk_X8_rests_197 hK hR hrec_53 hrec_66 hrec_86 hF
  · have hF := if_t hF hc
    refine aw_iload hK 0 rfl dX8_rests_174 ?_
    refine aw_aload_n hK 1 rfl dX8_rests_176 ?_
    refine gf_8_36 hK rfl (99) rfl (List.mem_of_getElem? (i := 1) rfl) dX8_rests_177 ?_
    refine aw_bipush hK (32) rfl dX8_rests_180 ?_
    refine aw_iload hK 6 rfl dX8_rests_182 ?_
    refine aw_imul hK dX8_rests_184 ?_
    refine aw_aload_n hK 1 rfl dX8_rests_185 ?_
    refine gf_8_6 hK rfl (75) rfl (List.mem_of_getElem? (i := 7) rfl) dX8_rests_186 ?_
    refine aw_iload hK 5 rfl dX8_rests_189 ?_
    obtain ⟨g18, hF⟩ := gd_some hF
    refine aw_iald hK rfl g18 dX8_rests_191 ?_
    refine aw_iadd hK dX8_rests_192 ?_
    obtain ⟨g19, hF⟩ := gd_some hF
    refine aw_iald hK rfl g19 dX8_rests_193 ?_
    refine aw_icmp_ge hK 201 rfl dX8_rests_194 (fun hc => ?_) (fun hc => ?_)
    · have hF := if_t hF hc
      refine aw_iconst hK (0) rfl dX8_rests_201 ?_
      refine aw_sub [1, 2, 3, 5, 6, 0] (lv' := [(0, q_r 70), (1, q_i x1), (2, q_i x2), (4, q_i x4), (5, q_i x5), (7, q_i s0)]) rfl ?_
      exact bk_X8_rests_202 hK hR hrec_53 hrec_66 hrec_86 hF
    · have hF := if_f hF hc
      refine aw_sub [1, 2, 3, 5, 6, 0] (lv' := [(0, q_r 70), (1, q_i x1), (2, q_i x2), (4, q_i x4), (5, q_i x5), (7, q_i s0)]) rfl ?_
      exact bk_X8_rests_197 hK hR hrec_53 hrec_66 hrec_86 hF
def B_X8_rests_136 (N : Nat) (rec_53 : Mem → Int32 → Int32 → Int32 → Option Mem) (rec_66 : Mem → Int32 → Int32 → Int32 → Int32 → Option Mem) (rec_86 : Mem → Int32 → Int32 → Int32 → Int32 → Int32 → Option Mem) (m : Mem) (x1 : Int32) (x2 : Int32) (x3 : Int32) (x4 : Int32) (x5 : Int32) : Option Mem :=
  B_X8_rests_168 N rec_53 rec_66 rec_86 m x1 x2 x3 x4 x5 (2000000000 : Int32)
set_option maxRecDepth 100000 in
set_option maxHeartbeats 4000000 in
theorem bk_X8_rests_136 {N : Nat} {K : KT} {m' : Mem} {rec_53 : Mem → Int32 → Int32 → Int32 → Option Mem} {rec_66 : Mem → Int32 → Int32 → Int32 → Int32 → Option Mem} {rec_86 : Mem → Int32 → Int32 → Int32 → Int32 → Int32 → Option Mem} (hK : KOK K cX8_rests 8 RX8 wsX8_rests 2 0 46) (hR : KRet K none none m') (hrec_53 : ∀ {m : Mem} {x1 : Int32} {x2 : Int32} {x3 : Int32}, rec_53 m x1 x2 x3 = some m' → AW K 0 53 [(0, q_r 70), (1, q_i x1), (2, q_i x2), (3, q_i x3)] [] m) (hrec_66 : ∀ {m : Mem} {x1 : Int32} {x2 : Int32} {x3 : Int32} {x4 : Int32}, rec_66 m x1 x2 x3 x4 = some m' → AW K 0 66 [(0, q_r 70), (1, q_i x1), (2, q_i x2), (3, q_i x3), (4, q_i x4)] [] m) (hrec_86 : ∀ {m : Mem} {x1 : Int32} {x2 : Int32} {x3 : Int32} {x4 : Int32} {x5 : Int32}, rec_86 m x1 x2 x3 x4 x5 = some m' → AW K 0 86 [(0, q_r 70), (1, q_i x1), (2, q_i x2), (3, q_i x3), (4, q_i x4), (5, q_i x5)] [] m) {m : Mem} {x1 : Int32} {x2 : Int32} {x3 : Int32} {x4 : Int32} {x5 : Int32} (hF : B_X8_rests_136 N rec_53 rec_66 rec_86 m x1 x2 x3 x4 x5 = some m') : AW K 0 136 [(0, q_r 70), (1, q_i x1), (2, q_i x2), (3, q_i x3), (4, q_i x4), (5, q_i x5)] [] m := by
  unfold B_X8_rests_136 at hF
  refine aw_ldc_w hK (2000000000) (List.mem_of_getElem? (i := 3) rfl) dX8_rests_136 ?_
  refine aw_goto hK 168 rfl dX8_rests_139 ?_
  refine aw_sub [0, 1, 2, 3, 4, 5] (lv' := [(0, q_r 70), (1, q_i x1), (2, q_i x2), (3, q_i x3), (4, q_i x4), (5, q_i x5)]) rfl ?_
  exact bk_X8_rests_168 hK hR hrec_53 hrec_66 hrec_86 hF
def S_X8_rests_86 (N : Nat) (rec_53 : Mem → Int32 → Int32 → Int32 → Option Mem) (rec_66 : Mem → Int32 → Int32 → Int32 → Int32 → Option Mem) (rec_86 : Mem → Int32 → Int32 → Int32 → Int32 → Int32 → Option Mem) (m : Mem) (x1 : Int32) (x2 : Int32) (x3 : Int32) (x4 : Int32) (x5 : Int32) : Option Mem :=
  if (m 70 2) < x5 then (
    bnd (x4 + (1 : Int32)) fun y9 =>
    rec_66 m x1 x2 x3 y9
  ) else (
    cal (F_X8_behind N m x4 x5 x2) fun r12 m11 =>
    if r12 = (-1 : Int32) then (
      B_X8_rests_136 N rec_53 rec_66 rec_86 m11 x1 x2 x3 x4 x5
    ) else (
      gd (inb x4 (alen 79)) <|
      gd (inb (((32 : Int32) * r12) + (m11 79 (ix x4))) (alen 99)) <|
      if (m11 99 (ix (((32 : Int32) * r12) + (m11 79 (ix x4))))) = (2000000000 : Int32) then (
        B_X8_rests_136 N rec_53 rec_66 rec_86 m11 x1 x2 x3 x4 x5
      ) else (
        gd (inb x4 (alen 79)) <|
        gd (inb (((32 : Int32) * r12) + (m11 79 (ix x4))) (alen 99)) <|
        gd (inb x4 (alen 78)) <|
        B_X8_rests_168 N rec_53 rec_66 rec_86 m11 x1 x2 x3 x4 x5 ((m11 99 (ix (((32 : Int32) * r12) + (m11 79 (ix x4))))) + (m11 78 (ix x4)))
      )
    )
  )
def L_X8_rests_86 (N : Nat) (rec_53 : Mem → Int32 → Int32 → Int32 → Option Mem) (rec_66 : Mem → Int32 → Int32 → Int32 → Int32 → Option Mem) : Nat → Mem → Int32 → Int32 → Int32 → Int32 → Int32 → Option Mem
  | 0 => fun _ _ _ _ _ _ => none
  | f + 1 => S_X8_rests_86 N rec_53 rec_66 (L_X8_rests_86 N rec_53 rec_66 f)
set_option maxRecDepth 100000 in
set_option maxHeartbeats 4000000 in
theorem lp_X8_rests_86 {N : Nat} {K : KT} {m' : Mem} {rec_53 : Mem → Int32 → Int32 → Int32 → Option Mem} {rec_66 : Mem → Int32 → Int32 → Int32 → Int32 → Option Mem} (hK : KOK K cX8_rests 8 RX8 wsX8_rests 2 0 46) (hR : KRet K none none m') (hrec_53 : ∀ {m : Mem} {x1 : Int32} {x2 : Int32} {x3 : Int32}, rec_53 m x1 x2 x3 = some m' → AW K 0 53 [(0, q_r 70), (1, q_i x1), (2, q_i x2), (3, q_i x3)] [] m) (hrec_66 : ∀ {m : Mem} {x1 : Int32} {x2 : Int32} {x3 : Int32} {x4 : Int32}, rec_66 m x1 x2 x3 x4 = some m' → AW K 0 66 [(0, q_r 70), (1, q_i x1), (2, q_i x2), (3, q_i x3), (4, q_i x4)] [] m) : ∀ (f : Nat) {m : Mem} {x1 : Int32} {x2 : Int32} {x3 : Int32} {x4 : Int32} {x5 : Int32}, L_X8_rests_86 N rec_53 rec_66 f m x1 x2 x3 x4 x5 = some m' → AW K 0 86 [(0, q_r 70), (1, q_i x1), (2, q_i x2), (3, q_i x3), (4, q_i x4), (5, q_i x5)] [] m := by
  intro f
  induction f with
  | zero => intro m x1 x2 x3 x4 x5 hF; cases hF
  | succ f hrec_86 =>
    intro m x1 x2 x3 x4 x5 hF
    have hF : S_X8_rests_86 N rec_53 rec_66 (L_X8_rests_86 N rec_53 rec_66 f) m x1 x2 x3 x4 x5 = some m' := hF
    unfold S_X8_rests_86 at hF
    refine aw_iload hK 5 rfl dX8_rests_86 ?_
    refine aw_aload_n hK 0 rfl dX8_rests_88 ?_
    refine gf_8_2 hK rfl (List.mem_of_getElem? (i := 2) rfl) dX8_rests_89 ?_
    refine aw_icmp_gt hK 273 rfl dX8_rests_92 (fun hc => ?_) (fun hc => ?_)
    · have hF := if_t hF hc
      obtain ⟨y9, hy9, hF⟩ := bnd_some hF
      refine aw_iinc hK (cz := 1) 4 [(4, q_i y9), (0, q_r 70), (1, q_i x1), (2, q_i x2), (3, q_i x3), (5, q_i x5)] (by decide) rfl rfl hy9 rfl dX8_rests_273 ?_
      refine aw_goto hK 66 rfl dX8_rests_276 ?_
      refine aw_sub [1, 2, 3, 4, 0] (lv' := [(0, q_r 70), (1, q_i x1), (2, q_i x2), (3, q_i x3), (4, q_i y9)]) rfl ?_
      exact hrec_66 hF
    · have hF := if_f hF hc
      refine aw_aload_n hK 0 rfl dX8_rests_95 ?_
      refine aw_iload hK 4 rfl dX8_rests_96 ?_
      refine aw_iload hK 5 rfl dX8_rests_98 ?_
      refine aw_iload_n hK 2 rfl dX8_rests_100 ?_
      obtain ⟨r12, m11, h10, hF⟩ := cal_some hF
      refine aw_cv hK 8 (as := [q_i x4, q_i x5, q_i x2]) (tr_X8_behind h10) gX8_rests_X8_behind rfl rfl rfl (by decide) (na := 3) (by decide +kernel) rfl ⟨by decide, by decide⟩ (Nat.zero_le _) (Nat.le_of_ble_eq_true rfl) dX8_rests_101 ?_
      refine aw_istore hK [(6, q_i r12), (0, q_r 70), (1, q_i x1), (2, q_i x2), (3, q_i x3), (4, q_i x4), (5, q_i x5)] (by decide) rfl dX8_rests_104 ?_
      refine aw_iload hK 0 rfl dX8_rests_106 ?_
      refine aw_iconst hK (-1) rfl dX8_rests_108 ?_
      refine aw_icmp_eq hK 136 rfl dX8_rests_109 (fun hc => ?_) (fun hc => ?_)
      · have hF := if_t hF hc
        refine aw_sub [1, 2, 3, 4, 5, 6] (lv' := [(0, q_r 70), (1, q_i x1), (2, q_i x2), (3, q_i x3), (4, q_i x4), (5, q_i x5)]) rfl ?_
        exact bk_X8_rests_136 hK hR hrec_53 hrec_66 hrec_86 hF
      · have hF := if_f hF hc
        refine aw_aload_n hK 1 rfl dX8_rests_112 ?_
        refine gf_8_36 hK rfl (99) rfl (List.mem_of_getElem? (i := 1) rfl) dX8_rests_113 ?_
        refine aw_bipush hK (32) rfl dX8_rests_116 ?_
        refine aw_iload hK 0 rfl dX8_rests_118 ?_
        refine aw_imul hK dX8_rests_120 ?_
        refine aw_aload_n hK 1 rfl dX8_rests_121 ?_
        refine gf_8_10 hK rfl (79) rfl (List.mem_of_getElem? (i := 5) rfl) dX8_rests_122 ?_
        refine aw_iload hK 5 rfl dX8_rests_125 ?_
        obtain ⟨g13, hF⟩ := gd_some hF
        refine aw_iald hK rfl g13 dX8_rests_127 ?_
        refine aw_iadd hK dX8_rests_128 ?_
        obtain ⟨g14, hF⟩ := gd_some hF
        refine aw_iald hK rfl g14 dX8_rests_129 ?_
        refine aw_ldc_w hK (2000000000) (List.mem_of_getElem? (i := 3) rfl) dX8_rests_130 ?_
        refine aw_icmp_ne hK 142 rfl dX8_rests_133 (fun hc => ?_) (fun hc => ?_)
        · have hF := if_f hF hc
          refine aw_aload_n hK 1 rfl dX8_rests_142 ?_
          refine gf_8_36 hK rfl (99) rfl (List.mem_of_getElem? (i := 1) rfl) dX8_rests_143 ?_
          refine aw_bipush hK (32) rfl dX8_rests_146 ?_
          refine aw_iload hK 0 rfl dX8_rests_148 ?_
          refine aw_imul hK dX8_rests_150 ?_
          refine aw_aload_n hK 1 rfl dX8_rests_151 ?_
          refine gf_8_10 hK rfl (79) rfl (List.mem_of_getElem? (i := 5) rfl) dX8_rests_152 ?_
          refine aw_iload hK 5 rfl dX8_rests_155 ?_
          obtain ⟨g15, hF⟩ := gd_some hF
          refine aw_iald hK rfl g15 dX8_rests_157 ?_
          refine aw_iadd hK dX8_rests_158 ?_
          obtain ⟨g16, hF⟩ := gd_some hF
          refine aw_iald hK rfl g16 dX8_rests_159 ?_
          refine aw_aload_n hK 1 rfl dX8_rests_160 ?_
          refine gf_8_9 hK rfl (78) rfl (List.mem_of_getElem? (i := 6) rfl) dX8_rests_161 ?_
          refine aw_iload hK 5 rfl dX8_rests_164 ?_
          obtain ⟨g17, hF⟩ := gd_some hF
          refine aw_iald hK rfl g17 dX8_rests_166 ?_
          refine aw_iadd hK dX8_rests_167 ?_
          refine aw_sub [1, 2, 3, 4, 5, 6] (lv' := [(0, q_r 70), (1, q_i x1), (2, q_i x2), (3, q_i x3), (4, q_i x4), (5, q_i x5)]) rfl ?_
          exact bk_X8_rests_168 hK hR hrec_53 hrec_66 hrec_86 hF
        · have hF := if_t hF hc
          refine aw_sub [1, 2, 3, 4, 5, 6] (lv' := [(0, q_r 70), (1, q_i x1), (2, q_i x2), (3, q_i x3), (4, q_i x4), (5, q_i x5)]) rfl ?_
          exact bk_X8_rests_136 hK hR hrec_53 hrec_66 hrec_86 hF
def S_X8_rests_66 (N : Nat) (rec_53 : Mem → Int32 → Int32 → Int32 → Option Mem) (rec_66 : Mem → Int32 → Int32 → Int32 → Int32 → Option Mem) (m : Mem) (x1 : Int32) (x2 : Int32) (x3 : Int32) (x4 : Int32) : Option Mem :=
  gd (inb x1 (alen 74)) <|
  if (((160 : Int32) * x1) + (m 74 (ix x1))) ≤ x4 then (
    rec_53 m x1 x2 x3
  ) else (
    L_X8_rests_86 N rec_53 rec_66 N m x1 x2 x3 x4 (0 : Int32)
  )
def L_X8_rests_66 (N : Nat) (rec_53 : Mem → Int32 → Int32 → Int32 → Option Mem) : Nat → Mem → Int32 → Int32 → Int32 → Int32 → Option Mem
  | 0 => fun _ _ _ _ _ => none
  | f + 1 => S_X8_rests_66 N rec_53 (L_X8_rests_66 N rec_53 f)
set_option maxRecDepth 100000 in
set_option maxHeartbeats 4000000 in
theorem lp_X8_rests_66 {N : Nat} {K : KT} {m' : Mem} {rec_53 : Mem → Int32 → Int32 → Int32 → Option Mem} (hK : KOK K cX8_rests 8 RX8 wsX8_rests 2 0 46) (hR : KRet K none none m') (hrec_53 : ∀ {m : Mem} {x1 : Int32} {x2 : Int32} {x3 : Int32}, rec_53 m x1 x2 x3 = some m' → AW K 0 53 [(0, q_r 70), (1, q_i x1), (2, q_i x2), (3, q_i x3)] [] m) : ∀ (f : Nat) {m : Mem} {x1 : Int32} {x2 : Int32} {x3 : Int32} {x4 : Int32}, L_X8_rests_66 N rec_53 f m x1 x2 x3 x4 = some m' → AW K 0 66 [(0, q_r 70), (1, q_i x1), (2, q_i x2), (3, q_i x3), (4, q_i x4)] [] m := by
  intro f
  induction f with
  | zero => intro m x1 x2 x3 x4 hF; cases hF
  | succ f hrec_66 =>
    intro m x1 x2 x3 x4 hF
    have hF : S_X8_rests_66 N rec_53 (L_X8_rests_66 N rec_53 f) m x1 x2 x3 x4 = some m' := hF
    unfold S_X8_rests_66 at hF
    refine aw_iload hK 4 rfl dX8_rests_66 ?_
    refine aw_sipush hK (160) rfl dX8_rests_68 ?_
    refine aw_iload_n hK 1 rfl dX8_rests_71 ?_
    refine aw_imul hK dX8_rests_72 ?_
    refine aw_aload_n hK 0 rfl dX8_rests_73 ?_
    refine gf_8_5 hK rfl (74) rfl (List.mem_of_getElem? (i := 4) rfl) dX8_rests_74 ?_
    refine aw_iload_n hK 1 rfl dX8_rests_77 ?_
    obtain ⟨g8, hF⟩ := gd_some hF
    refine aw_iald hK rfl g8 dX8_rests_78 ?_
    refine aw_iadd hK dX8_rests_79 ?_
    refine aw_icmp_ge hK 279 rfl dX8_rests_80 (fun hc => ?_) (fun hc => ?_)
    · have hF := if_t hF hc
      refine aw_goto hK 53 rfl dX8_rests_279 ?_
      refine aw_sub [0, 1, 2, 3] (lv' := [(0, q_r 70), (1, q_i x1), (2, q_i x2), (3, q_i x3)]) rfl ?_
      exact hrec_53 hF
    · have hF := if_f hF hc
      refine aw_iconst hK (0) rfl dX8_rests_83 ?_
      refine aw_istore hK [(5, q_i (0 : Int32)), (0, q_r 70), (1, q_i x1), (2, q_i x2), (3, q_i x3), (4, q_i x4)] (by decide) rfl dX8_rests_84 ?_
      refine aw_sub [1, 2, 3, 4, 5, 0] (lv' := [(0, q_r 70), (1, q_i x1), (2, q_i x2), (3, q_i x3), (4, q_i x4), (5, q_i (0 : Int32))]) rfl ?_
      exact lp_X8_rests_86 hK hR hrec_53 hrec_66 _ hF
def S_X8_rests_53 (N : Nat) (rec_53 : Mem → Int32 → Int32 → Int32 → Option Mem) (m : Mem) (x1 : Int32) (x2 : Int32) (x3 : Int32) : Option Mem :=
  if x3 = (0 : Int32) then (
    some m
  ) else (
    bnd ((160 : Int32) * x1) fun y7 =>
    L_X8_rests_66 N rec_53 N m x1 x2 (0 : Int32) y7
  )
def L_X8_rests_53 (N : Nat) : Nat → Mem → Int32 → Int32 → Int32 → Option Mem
  | 0 => fun _ _ _ _ => none
  | f + 1 => S_X8_rests_53 N (L_X8_rests_53 N f)
set_option maxRecDepth 100000 in
set_option maxHeartbeats 4000000 in
theorem lp_X8_rests_53 {N : Nat} {K : KT} {m' : Mem} (hK : KOK K cX8_rests 8 RX8 wsX8_rests 2 0 46) (hR : KRet K none none m') : ∀ (f : Nat) {m : Mem} {x1 : Int32} {x2 : Int32} {x3 : Int32}, L_X8_rests_53 N f m x1 x2 x3 = some m' → AW K 0 53 [(0, q_r 70), (1, q_i x1), (2, q_i x2), (3, q_i x3)] [] m := by
  intro f
  induction f with
  | zero => intro m x1 x2 x3 hF; cases hF
  | succ f hrec_53 =>
    intro m x1 x2 x3 hF
    have hF : S_X8_rests_53 N (L_X8_rests_53 N f) m x1 x2 x3 = some m' := hF
    unfold S_X8_rests_53 at hF
    refine aw_iload_n hK 3 rfl dX8_rests_53 ?_
    refine aw_if_eq hK 282 rfl dX8_rests_54 (fun hc => ?_) (fun hc => ?_)
    · have hF := if_t hF hc
      obtain rfl := Option.some.inj hF
      exact aw_vret hK hR dX8_rests_282
    · have hF := if_f hF hc
      refine aw_iconst hK (0) rfl dX8_rests_57 ?_
      refine aw_istore_n hK [(3, q_i (0 : Int32)), (0, q_r 70), (1, q_i x1), (2, q_i x2)] (by decide) rfl dX8_rests_58 ?_
      refine aw_sipush hK (160) rfl dX8_rests_59 ?_
      refine aw_iload_n hK 2 rfl dX8_rests_62 ?_
      refine aw_imul hK dX8_rests_63 ?_
      obtain ⟨y7, hy7, hF⟩ := bnd_some hF
      refine aw_nm hy7 ?_
      refine aw_istore hK [(4, q_i y7), (3, q_i (0 : Int32)), (0, q_r 70), (1, q_i x1), (2, q_i x2)] (by decide) rfl dX8_rests_64 ?_
      refine aw_sub [2, 3, 4, 1, 0] (lv' := [(0, q_r 70), (1, q_i x1), (2, q_i x2), (3, q_i (0 : Int32)), (4, q_i y7)]) rfl ?_
      exact lp_X8_rests_66 hK hR hrec_53 _ hF
def B_X8_rests_44 (N : Nat) (rec_2 : Mem → Int32 → Int32 → Int32 → Option Mem) (m : Mem) (x1 : Int32) (x2 : Int32) (x3 : Int32) (s0 : Int32) (s1 : Int32) : Option Mem :=
  gd (inb s1 (alen 99)) <|
  bnd (mup m 99 (ix s1) s0) fun m5 =>
  bnd (x3 + (1 : Int32)) fun y6 =>
  rec_2 m5 x1 x2 y6
set_option maxRecDepth 100000 in
set_option maxHeartbeats 4000000 in
theorem bk_X8_rests_44 {N : Nat} {K : KT} {m' : Mem} {rec_2 : Mem → Int32 → Int32 → Int32 → Option Mem} (hK : KOK K cX8_rests 8 RX8 wsX8_rests 2 0 46) (hR : KRet K none none m') (hrec_2 : ∀ {m : Mem} {x1 : Int32} {x2 : Int32} {x3 : Int32}, rec_2 m x1 x2 x3 = some m' → AW K 0 2 [(0, q_r 70), (1, q_i x1), (2, q_i x2), (3, q_i x3)] [] m) {m : Mem} {x1 : Int32} {x2 : Int32} {x3 : Int32} {s0 : Int32} {s1 : Int32} (hF : B_X8_rests_44 N rec_2 m x1 x2 x3 s0 s1 = some m') : AW K 0 44 [(0, q_r 70), (1, q_i x1), (2, q_i x2), (3, q_i x3)] [q_i s0, q_i s1, q_r 99] m := by
  unfold B_X8_rests_44 at hF
  obtain ⟨g4, hF⟩ := gd_some hF
  refine aw_iast hK rfl g4 dX8_rests_44 ?_
  obtain ⟨m5, hm5, hF⟩ := bnd_some hF
  refine aw_mm hm5 ?_
  obtain ⟨y6, hy6, hF⟩ := bnd_some hF
  refine aw_iinc hK (cz := 1) 3 [(3, q_i y6), (0, q_r 70), (1, q_i x1), (2, q_i x2)] (by decide) rfl rfl hy6 rfl dX8_rests_45 ?_
  refine aw_goto hK 2 rfl dX8_rests_48 ?_
  refine aw_sub [1, 2, 3, 0] (lv' := [(0, q_r 70), (1, q_i x1), (2, q_i x2), (3, q_i y6)]) rfl ?_
  exact hrec_2 hF
def B_X8_rests_41 (N : Nat) (rec_2 : Mem → Int32 → Int32 → Int32 → Option Mem) (m : Mem) (x1 : Int32) (x2 : Int32) (x3 : Int32) (s0 : Int32) : Option Mem :=
  B_X8_rests_44 N rec_2 m x1 x2 x3 (2000000000 : Int32) s0
set_option maxRecDepth 100000 in
set_option maxHeartbeats 4000000 in
theorem bk_X8_rests_41 {N : Nat} {K : KT} {m' : Mem} {rec_2 : Mem → Int32 → Int32 → Int32 → Option Mem} (hK : KOK K cX8_rests 8 RX8 wsX8_rests 2 0 46) (hR : KRet K none none m') (hrec_2 : ∀ {m : Mem} {x1 : Int32} {x2 : Int32} {x3 : Int32}, rec_2 m x1 x2 x3 = some m' → AW K 0 2 [(0, q_r 70), (1, q_i x1), (2, q_i x2), (3, q_i x3)] [] m) {m : Mem} {x1 : Int32} {x2 : Int32} {x3 : Int32} {s0 : Int32} (hF : B_X8_rests_41 N rec_2 m x1 x2 x3 s0 = some m') : AW K 0 41 [(0, q_r 70), (1, q_i x1), (2, q_i x2), (3, q_i x3)] [q_i s0, q_r 99] m := by
  unfold B_X8_rests_41 at hF
  refine aw_ldc_w hK (2000000000) (List.mem_of_getElem? (i := 3) rfl) dX8_rests_41 ?_
  refine aw_sub [0, 1, 2, 3] (lv' := [(0, q_r 70), (1, q_i x1), (2, q_i x2), (3, q_i x3)]) rfl ?_
  exact bk_X8_rests_44 hK hR hrec_2 hF
def S_X8_rests_2 (N : Nat) (rec_2 : Mem → Int32 → Int32 → Int32 → Option Mem) (m : Mem) (x1 : Int32) (x2 : Int32) (x3 : Int32) : Option Mem :=
  if (288 : Int32) ≤ x3 then (
    L_X8_rests_53 N N m x1 x2 (1 : Int32)
  ) else (
    if (x3 / (32 : Int32)) = (m 70 2) then (
      cal (F_X8_isEndOf N m x1 (q_rem x3 (32 : Int32))) fun r3 m2 =>
      if r3 = (0 : Int32) then (
        B_X8_rests_41 N rec_2 m2 x1 x2 x3 x3
      ) else (
        B_X8_rests_44 N rec_2 m2 x1 x2 x3 (0 : Int32) x3
      )
    ) else (
      B_X8_rests_41 N rec_2 m x1 x2 x3 x3
    )
  )
def L_X8_rests_2 (N : Nat) : Nat → Mem → Int32 → Int32 → Int32 → Option Mem
  | 0 => fun _ _ _ _ => none
  | f + 1 => S_X8_rests_2 N (L_X8_rests_2 N f)
set_option maxRecDepth 100000 in
set_option maxHeartbeats 4000000 in
theorem lp_X8_rests_2 {N : Nat} {K : KT} {m' : Mem} (hK : KOK K cX8_rests 8 RX8 wsX8_rests 2 0 46) (hR : KRet K none none m') : ∀ (f : Nat) {m : Mem} {x1 : Int32} {x2 : Int32} {x3 : Int32}, L_X8_rests_2 N f m x1 x2 x3 = some m' → AW K 0 2 [(0, q_r 70), (1, q_i x1), (2, q_i x2), (3, q_i x3)] [] m := by
  intro f
  induction f with
  | zero => intro m x1 x2 x3 hF; cases hF
  | succ f hrec_2 =>
    intro m x1 x2 x3 hF
    have hF : S_X8_rests_2 N (L_X8_rests_2 N f) m x1 x2 x3 = some m' := hF
    unfold S_X8_rests_2 at hF
    refine aw_iload_n hK 3 rfl dX8_rests_2 ?_
    refine aw_sipush hK (288) rfl dX8_rests_3 ?_
    refine aw_icmp_ge hK 51 rfl dX8_rests_6 (fun hc => ?_) (fun hc => ?_)
    · have hF := if_t hF hc
      refine aw_iconst hK (1) rfl dX8_rests_51 ?_
      refine aw_istore_n hK [(3, q_i (1 : Int32)), (0, q_r 70), (1, q_i x1), (2, q_i x2)] (by decide) rfl dX8_rests_52 ?_
      refine aw_sub [1, 2, 3, 0] (lv' := [(0, q_r 70), (1, q_i x1), (2, q_i x2), (3, q_i (1 : Int32))]) rfl ?_
      exact lp_X8_rests_53 hK hR _ hF
    · have hF := if_f hF hc
      refine aw_aload_n hK 0 rfl dX8_rests_9 ?_
      refine gf_8_36 hK rfl (99) rfl (List.mem_of_getElem? (i := 1) rfl) dX8_rests_10 ?_
      refine aw_iload_n hK 3 rfl dX8_rests_13 ?_
      refine aw_iload_n hK 3 rfl dX8_rests_14 ?_
      refine aw_bipush hK (32) rfl dX8_rests_15 ?_
      refine aw_idiv hK (by decide) dX8_rests_17 ?_
      refine aw_aload_n hK 0 rfl dX8_rests_18 ?_
      refine gf_8_2 hK rfl (List.mem_of_getElem? (i := 2) rfl) dX8_rests_19 ?_
      refine aw_icmp_ne hK 41 rfl dX8_rests_22 (fun hc => ?_) (fun hc => ?_)
      · have hF := if_f hF hc
        refine aw_sub [0, 1, 2, 3] (lv' := [(0, q_r 70), (1, q_i x1), (2, q_i x2), (3, q_i x3)]) rfl ?_
        exact bk_X8_rests_41 hK hR hrec_2 hF
      · have hF := if_t hF hc
        refine aw_aload_n hK 0 rfl dX8_rests_25 ?_
        refine aw_iload_n hK 1 rfl dX8_rests_26 ?_
        refine aw_iload_n hK 3 rfl dX8_rests_27 ?_
        refine aw_bipush hK (32) rfl dX8_rests_28 ?_
        refine aw_irem hK (by decide) dX8_rests_30 ?_
        obtain ⟨r3, m2, h1, hF⟩ := cal_some hF
        refine aw_cv hK 8 (as := [q_i x1, q_i (q_rem x3 (32 : Int32))]) (tr_X8_isEndOf h1) gX8_rests_X8_isEndOf rfl rfl rfl (by decide) (na := 2) (by decide +kernel) rfl ⟨by decide, by decide⟩ (Nat.zero_le _) (Nat.le_of_ble_eq_true rfl) dX8_rests_31 ?_
        refine aw_if_eq hK 41 rfl dX8_rests_34 (fun hc => ?_) (fun hc => ?_)
        · have hF := if_t hF hc
          refine aw_sub [0, 1, 2, 3] (lv' := [(0, q_r 70), (1, q_i x1), (2, q_i x2), (3, q_i x3)]) rfl ?_
          exact bk_X8_rests_41 hK hR hrec_2 hF
        · have hF := if_f hF hc
          refine aw_iconst hK (0) rfl dX8_rests_37 ?_
          refine aw_goto hK 44 rfl dX8_rests_38 ?_
          refine aw_sub [0, 1, 2, 3] (lv' := [(0, q_r 70), (1, q_i x1), (2, q_i x2), (3, q_i x3)]) rfl ?_
          exact bk_X8_rests_44 hK hR hrec_2 hF
def F_X8_rests (N : Nat) (m : Mem) (x1 : Int32) (x2 : Int32) : Option Mem :=
  L_X8_rests_2 N N m x1 x2 (0 : Int32)
set_option maxRecDepth 100000 in
set_option maxHeartbeats 4000000 in
theorem tr_X8_rests {N : Nat} {m m' : Mem} {x1 : Int32} {x2 : Int32} (hF : F_X8_rests N m x1 x2 = some m') : Tr yX8_rests wsX8_rests 2 46 [q_r 70, q_i x1, q_i x2] m none m' := by
  refine tr_of (bytes := cX8_rests) (maxL := 8) (ret := none) (by decide) rfl (Nat.le_of_ble_eq_true rfl) (fun K hK hR => ?_)
  have hK : KOK K cX8_rests 8 RX8 wsX8_rests 2 0 46 := hK
  show AW K 0 0 [(0, q_r 70), (1, q_i x1), (2, q_i x2)] [] m
  unfold F_X8_rests at hF
  refine aw_iconst hK (0) rfl dX8_rests_0 ?_
  refine aw_istore_n hK [(3, q_i (0 : Int32)), (0, q_r 70), (1, q_i x1), (2, q_i x2)] (by decide) rfl dX8_rests_1 ?_
  refine aw_sub [1, 2, 3, 0] (lv' := [(0, q_r 70), (1, q_i x1), (2, q_i x2), (3, q_i (0 : Int32))]) rfl ?_
  exact lp_X8_rests_2 hK hR _ hF
def B_X8_goesOn_138 (N : Nat) (m : Mem) (x8 : Int32) : Option (Int32 × Mem) :=
  gd (isb x8) <|
  some (x8, m)
set_option maxRecDepth 100000 in
set_option maxHeartbeats 4000000 in
theorem bk_X8_goesOn_138 {N : Nat} {K : KT} {m' : Mem} {r : Int32} (hK : KOK K cX8_goesOn 9 RX8 wsX8_goesOn 2 0 46) (hR : KRet K (some .boolean) (some r) m') {m : Mem} {x8 : Int32} (hF : B_X8_goesOn_138 N m x8 = some (r, m')) : AW K 0 138 [(8, q_i x8)] [] m := by
  unfold B_X8_goesOn_138 at hF
  refine aw_iload hK 0 rfl dX8_goesOn_138 ?_
  obtain ⟨g13, hF⟩ := gd_some hF
  obtain ⟨rfl, rfl⟩ := so_inj hF
  exact aw_iret hK hR (isb_narrow g13) dX8_goesOn_140
def B_X8_goesOn_105 (N : Nat) (m : Mem) (x4 : Int32) (x5 : Int32) (x7 : Int32) (s0 : Int32) : Option (Int32 × Mem) :=
  if s0 = (0 : Int32) then (
    B_X8_goesOn_138 N m s0
  ) else (
    gd (inb x5 (alen 79)) <|
    gd (inb ((((288 : Int32) * x4) + ((32 : Int32) * x7)) + (m 79 (ix x5))) (alen 102)) <|
    bnd (mup m 102 (ix ((((288 : Int32) * x4) + ((32 : Int32) * x7)) + (m 79 (ix x5)))) (1 : Int32)) fun m12 =>
    B_X8_goesOn_138 N m12 s0
  )
set_option maxRecDepth 100000 in
set_option maxHeartbeats 4000000 in
theorem bk_X8_goesOn_105 {N : Nat} {K : KT} {m' : Mem} {r : Int32} (hK : KOK K cX8_goesOn 9 RX8 wsX8_goesOn 2 0 46) (hR : KRet K (some .boolean) (some r) m') {m : Mem} {x4 : Int32} {x5 : Int32} {x7 : Int32} {s0 : Int32} (hF : B_X8_goesOn_105 N m x4 x5 x7 s0 = some (r, m')) : AW K 0 105 [(0, q_r 70), (4, q_i x4), (5, q_i x5), (7, q_i x7)] [q_i s0] m := by
  unfold B_X8_goesOn_105 at hF
  refine aw_istore hK [(8, q_i s0), (0, q_r 70), (4, q_i x4), (5, q_i x5), (7, q_i x7)] (by decide) rfl dX8_goesOn_105 ?_
  refine aw_iload hK 0 rfl dX8_goesOn_107 ?_
  refine aw_if_eq hK 138 rfl dX8_goesOn_109 (fun hc => ?_) (fun hc => ?_)
  · have hF := if_t hF hc
    refine aw_sub [0] (lv' := [(8, q_i s0)]) rfl ?_
    exact bk_X8_goesOn_138 hK hR hF
  · have hF := if_f hF hc
    refine aw_aload_n hK 1 rfl dX8_goesOn_112 ?_
    refine gf_8_39 hK rfl (102) rfl (List.mem_of_getElem? (i := 1) rfl) dX8_goesOn_113 ?_
    refine aw_sipush hK (288) rfl dX8_goesOn_116 ?_
    refine aw_iload hK 2 rfl dX8_goesOn_119 ?_
    refine aw_imul hK dX8_goesOn_121 ?_
    refine aw_bipush hK (32) rfl dX8_goesOn_122 ?_
    refine aw_iload hK 4 rfl dX8_goesOn_124 ?_
    refine aw_imul hK dX8_goesOn_126 ?_
    refine aw_iadd hK dX8_goesOn_127 ?_
    refine aw_aload_n hK 1 rfl dX8_goesOn_128 ?_
    refine gf_8_10 hK rfl (79) rfl (List.mem_of_getElem? (i := 4) rfl) dX8_goesOn_129 ?_
    refine aw_iload hK 3 rfl dX8_goesOn_132 ?_
    obtain ⟨g10, hF⟩ := gd_some hF
    refine aw_iald hK rfl g10 dX8_goesOn_134 ?_
    refine aw_iadd hK dX8_goesOn_135 ?_
    refine aw_iconst hK (1) rfl dX8_goesOn_136 ?_
    obtain ⟨g11, hF⟩ := gd_some hF
    refine aw_zast hK rfl g11 rfl dX8_goesOn_137 ?_
    obtain ⟨m12, hm12, hF⟩ := bnd_some hF
    refine aw_mm hm12 ?_
    refine aw_sub [0] (lv' := [(8, q_i s0)]) rfl ?_
    exact bk_X8_goesOn_138 hK hR hF
def B_X8_goesOn_104 (N : Nat) (m : Mem) (x4 : Int32) (x5 : Int32) (x7 : Int32) : Option (Int32 × Mem) :=
  B_X8_goesOn_105 N m x4 x5 x7 (0 : Int32)
set_option maxRecDepth 100000 in
set_option maxHeartbeats 4000000 in
theorem bk_X8_goesOn_104 {N : Nat} {K : KT} {m' : Mem} {r : Int32} (hK : KOK K cX8_goesOn 9 RX8 wsX8_goesOn 2 0 46) (hR : KRet K (some .boolean) (some r) m') {m : Mem} {x4 : Int32} {x5 : Int32} {x7 : Int32} (hF : B_X8_goesOn_104 N m x4 x5 x7 = some (r, m')) : AW K 0 104 [(0, q_r 70), (4, q_i x4), (5, q_i x5), (7, q_i x7)] [] m := by
  unfold B_X8_goesOn_104 at hF
  refine aw_iconst hK (0) rfl dX8_goesOn_104 ?_
  refine aw_sub [0, 1, 2, 3] (lv' := [(0, q_r 70), (4, q_i x4), (5, q_i x5), (7, q_i x7)]) rfl ?_
  exact bk_X8_goesOn_105 hK hR hF
def B_X8_goesOn_40 (N : Nat) (m : Mem) (x4 : Int32) (x5 : Int32) (s0 : Int32) : Option (Int32 × Mem) :=
  if s0 = (-1 : Int32) then (
    B_X8_goesOn_104 N m x4 x5 s0
  ) else (
    gd (inb x5 (alen 79)) <|
    gd (inb (((32 : Int32) * s0) + (m 79 (ix x5))) (alen 99)) <|
    if (m 99 (ix (((32 : Int32) * s0) + (m 79 (ix x5))))) = (2000000000 : Int32) then (
      B_X8_goesOn_104 N m x4 x5 s0
    ) else (
      gd (inb x5 (alen 79)) <|
      gd (inb ((((288 : Int32) * x4) + ((32 : Int32) * s0)) + (m 79 (ix x5))) (alen 102)) <|
      if (m 102 (ix ((((288 : Int32) * x4) + ((32 : Int32) * s0)) + (m 79 (ix x5))))) = (0 : Int32) then (
        B_X8_goesOn_105 N m x4 x5 s0 (1 : Int32)
      ) else (
        B_X8_goesOn_104 N m x4 x5 s0
      )
    )
  )
set_option maxRecDepth 100000 in
set_option maxHeartbeats 4000000 in
theorem bk_X8_goesOn_40 {N : Nat} {K : KT} {m' : Mem} {r : Int32} (hK : KOK K cX8_goesOn 9 RX8 wsX8_goesOn 2 0 46) (hR : KRet K (some .boolean) (some r) m') {m : Mem} {x4 : Int32} {x5 : Int32} {s0 : Int32} (hF : B_X8_goesOn_40 N m x4 x5 s0 = some (r, m')) : AW K 0 40 [(0, q_r 70), (4, q_i x4), (5, q_i x5)] [q_i s0] m := by
  unfold B_X8_goesOn_40 at hF
  refine aw_istore hK [(7, q_i s0), (0, q_r 70), (4, q_i x4), (5, q_i x5)] (by decide) rfl dX8_goesOn_40 ?_
  refine aw_iload hK 0 rfl dX8_goesOn_42 ?_
  refine aw_iconst hK (-1) rfl dX8_goesOn_44 ?_
  refine aw_icmp_eq hK 104 rfl dX8_goesOn_45 (fun hc => ?_) (fun hc => ?_)
  · have hF := if_t hF hc
    refine aw_sub [1, 2, 3, 0] (lv' := [(0, q_r 70), (4, q_i x4), (5, q_i x5), (7, q_i s0)]) rfl ?_
    exact bk_X8_goesOn_104 hK hR hF
  · have hF := if_f hF hc
    refine aw_aload_n hK 1 rfl dX8_goesOn_48 ?_
    refine gf_8_36 hK rfl (99) rfl (List.mem_of_getElem? (i := 3) rfl) dX8_goesOn_49 ?_
    refine aw_bipush hK (32) rfl dX8_goesOn_52 ?_
    refine aw_iload hK 0 rfl dX8_goesOn_54 ?_
    refine aw_imul hK dX8_goesOn_56 ?_
    refine aw_aload_n hK 1 rfl dX8_goesOn_57 ?_
    refine gf_8_10 hK rfl (79) rfl (List.mem_of_getElem? (i := 4) rfl) dX8_goesOn_58 ?_
    refine aw_iload hK 3 rfl dX8_goesOn_61 ?_
    obtain ⟨g6, hF⟩ := gd_some hF
    refine aw_iald hK rfl g6 dX8_goesOn_63 ?_
    refine aw_iadd hK dX8_goesOn_64 ?_
    obtain ⟨g7, hF⟩ := gd_some hF
    refine aw_iald hK rfl g7 dX8_goesOn_65 ?_
    refine aw_ldc_w hK (2000000000) (List.mem_of_getElem? (i := 5) rfl) dX8_goesOn_66 ?_
    refine aw_icmp_eq hK 104 rfl dX8_goesOn_69 (fun hc => ?_) (fun hc => ?_)
    · have hF := if_t hF hc
      refine aw_sub [1, 2, 3, 0] (lv' := [(0, q_r 70), (4, q_i x4), (5, q_i x5), (7, q_i s0)]) rfl ?_
      exact bk_X8_goesOn_104 hK hR hF
    · have hF := if_f hF hc
      refine aw_aload_n hK 1 rfl dX8_goesOn_72 ?_
      refine gf_8_39 hK rfl (102) rfl (List.mem_of_getElem? (i := 1) rfl) dX8_goesOn_73 ?_
      refine aw_sipush hK (288) rfl dX8_goesOn_76 ?_
      refine aw_iload hK 2 rfl dX8_goesOn_79 ?_
      refine aw_imul hK dX8_goesOn_81 ?_
      refine aw_bipush hK (32) rfl dX8_goesOn_82 ?_
      refine aw_iload hK 0 rfl dX8_goesOn_84 ?_
      refine aw_imul hK dX8_goesOn_86 ?_
      refine aw_iadd hK dX8_goesOn_87 ?_
      refine aw_aload_n hK 1 rfl dX8_goesOn_88 ?_
      refine gf_8_10 hK rfl (79) rfl (List.mem_of_getElem? (i := 4) rfl) dX8_goesOn_89 ?_
      refine aw_iload hK 3 rfl dX8_goesOn_92 ?_
      obtain ⟨g8, hF⟩ := gd_some hF
      refine aw_iald hK rfl g8 dX8_goesOn_94 ?_
      refine aw_iadd hK dX8_goesOn_95 ?_
      obtain ⟨g9, hF⟩ := gd_some hF
      refine aw_zald hK rfl g9 dX8_goesOn_96 ?_
      refine aw_if_ne hK 104 rfl dX8_goesOn_97 (fun hc => ?_) (fun hc => ?_)
      · have hF := if_f hF hc
        refine aw_sub [1, 2, 3, 0] (lv' := [(0, q_r 70), (4, q_i x4), (5, q_i x5), (7, q_i s0)]) rfl ?_
        exact bk_X8_goesOn_104 hK hR hF
      · have hF := if_t hF hc
        refine aw_iconst hK (1) rfl dX8_goesOn_100 ?_
        refine aw_goto hK 105 rfl dX8_goesOn_101 ?_
        refine aw_sub [1, 2, 3, 0] (lv' := [(0, q_r 70), (4, q_i x4), (5, q_i x5), (7, q_i s0)]) rfl ?_
        exact bk_X8_goesOn_105 hK hR hF
def F_X8_goesOn (N : Nat) (m : Mem) (x1 : Int32) (x2 : Int32) (x3 : Int32) (x4 : Int32) (x5 : Int32) (x6 : Int32) : Option (Int32 × Mem) :=
  gd (inb x5 (alen 75)) <|
  gd (inb ((((288 : Int32) * x3) + ((32 : Int32) * x6)) + (m 75 (ix x5))) (alen 102)) <|
  if (m 102 (ix ((((288 : Int32) * x3) + ((32 : Int32) * x6)) + (m 75 (ix x5))))) = (0 : Int32) then (
    B_X8_goesOn_40 N m x4 x5 (-1 : Int32)
  ) else (
    cal (F_X8_behind N m x5 x6 x2) fun r5 m4 =>
    B_X8_goesOn_40 N m4 x4 x5 r5
  )
set_option maxRecDepth 100000 in
set_option maxHeartbeats 4000000 in
theorem tr_X8_goesOn {N : Nat} {m m' : Mem} {r : Int32} {x1 : Int32} {x2 : Int32} {x3 : Int32} {x4 : Int32} {x5 : Int32} {x6 : Int32} (hF : F_X8_goesOn N m x1 x2 x3 x4 x5 x6 = some (r, m')) : Tr yX8_goesOn wsX8_goesOn 2 46 [q_r 70, q_i x1, q_i x2, q_i x3, q_i x4, q_i x5, q_i x6] m (some r) m' := by
  refine tr_of (bytes := cX8_goesOn) (maxL := 9) (ret := (some .boolean)) (by decide) rfl (Nat.le_of_ble_eq_true rfl) (fun K hK hR => ?_)
  have hK : KOK K cX8_goesOn 9 RX8 wsX8_goesOn 2 0 46 := hK
  show AW K 0 0 [(0, q_r 70), (1, q_i x1), (2, q_i x2), (3, q_i x3), (4, q_i x4), (5, q_i x5), (6, q_i x6)] [] m
  unfold F_X8_goesOn at hF
  refine aw_aload_n hK 0 rfl dX8_goesOn_0 ?_
  refine gf_8_39 hK rfl (102) rfl (List.mem_of_getElem? (i := 1) rfl) dX8_goesOn_1 ?_
  refine aw_sipush hK (288) rfl dX8_goesOn_4 ?_
  refine aw_iload_n hK 3 rfl dX8_goesOn_7 ?_
  refine aw_imul hK dX8_goesOn_8 ?_
  refine aw_bipush hK (32) rfl dX8_goesOn_9 ?_
  refine aw_iload hK 6 rfl dX8_goesOn_11 ?_
  refine aw_imul hK dX8_goesOn_13 ?_
  refine aw_iadd hK dX8_goesOn_14 ?_
  refine aw_aload_n hK 0 rfl dX8_goesOn_15 ?_
  refine gf_8_6 hK rfl (75) rfl (List.mem_of_getElem? (i := 2) rfl) dX8_goesOn_16 ?_
  refine aw_iload hK 5 rfl dX8_goesOn_19 ?_
  obtain ⟨g1, hF⟩ := gd_some hF
  refine aw_iald hK rfl g1 dX8_goesOn_21 ?_
  refine aw_iadd hK dX8_goesOn_22 ?_
  obtain ⟨g2, hF⟩ := gd_some hF
  refine aw_zald hK rfl g2 dX8_goesOn_23 ?_
  refine aw_if_eq hK 39 rfl dX8_goesOn_24 (fun hc => ?_) (fun hc => ?_)
  · have hF := if_t hF hc
    refine aw_iconst hK (-1) rfl dX8_goesOn_39 ?_
    refine aw_sub [0, 4, 5] (lv' := [(0, q_r 70), (4, q_i x4), (5, q_i x5)]) rfl ?_
    exact bk_X8_goesOn_40 hK hR hF
  · have hF := if_f hF hc
    refine aw_aload_n hK 0 rfl dX8_goesOn_27 ?_
    refine aw_iload hK 5 rfl dX8_goesOn_28 ?_
    refine aw_iload hK 6 rfl dX8_goesOn_30 ?_
    refine aw_iload_n hK 2 rfl dX8_goesOn_32 ?_
    obtain ⟨r5, m4, h3, hF⟩ := cal_some hF
    refine aw_cv hK 8 (as := [q_i x5, q_i x6, q_i x2]) (tr_X8_behind h3) gX8_goesOn_X8_behind rfl rfl rfl (by decide) (na := 3) (by decide +kernel) rfl ⟨by decide, by decide⟩ (Nat.zero_le _) (Nat.le_of_ble_eq_true rfl) dX8_goesOn_33 ?_
    refine aw_goto hK 40 rfl dX8_goesOn_36 ?_
    refine aw_sub [0, 4, 5] (lv' := [(0, q_r 70), (4, q_i x4), (5, q_i x5)]) rfl ?_
    exact bk_X8_goesOn_40 hK hR hF
def B_X8_closes_92 (N : Nat) (rec_3 : Mem → Int32 → Int32 → Int32 → Int32 → Option Mem) (rec_18 : Mem → Int32 → Int32 → Int32 → Int32 → Int32 → Option Mem) (m : Mem) (x1 : Int32) (x2 : Int32) (x3 : Int32) (x4 : Int32) (x5 : Int32) : Option Mem :=
  bnd (x5 + (1 : Int32)) fun y10 =>
  rec_18 m x1 x2 x3 x4 y10
set_option maxRecDepth 100000 in
set_option maxHeartbeats 4000000 in
theorem bk_X8_closes_92 {N : Nat} {K : KT} {m' : Mem} {rec_3 : Mem → Int32 → Int32 → Int32 → Int32 → Option Mem} {rec_18 : Mem → Int32 → Int32 → Int32 → Int32 → Int32 → Option Mem} (hK : KOK K cX8_closes 7 RX8 wsX8_closes 3 0 74) (hR : KRet K none none m') (hrec_3 : ∀ {m : Mem} {x1 : Int32} {x2 : Int32} {x3 : Int32} {x4 : Int32}, rec_3 m x1 x2 x3 x4 = some m' → AW K 0 3 [(0, q_r 70), (1, q_i x1), (2, q_i x2), (3, q_i x3), (4, q_i x4)] [] m) (hrec_18 : ∀ {m : Mem} {x1 : Int32} {x2 : Int32} {x3 : Int32} {x4 : Int32} {x5 : Int32}, rec_18 m x1 x2 x3 x4 x5 = some m' → AW K 0 18 [(0, q_r 70), (1, q_i x1), (2, q_i x2), (3, q_i x3), (4, q_i x4), (5, q_i x5)] [] m) {m : Mem} {x1 : Int32} {x2 : Int32} {x3 : Int32} {x4 : Int32} {x5 : Int32} (hF : B_X8_closes_92 N rec_3 rec_18 m x1 x2 x3 x4 x5 = some m') : AW K 0 92 [(0, q_r 70), (1, q_i x1), (2, q_i x2), (3, q_i x3), (4, q_i x4), (5, q_i x5)] [] m := by
  unfold B_X8_closes_92 at hF
  obtain ⟨y10, hy10, hF⟩ := bnd_some hF
  refine aw_iinc hK (cz := 1) 5 [(5, q_i y10), (0, q_r 70), (1, q_i x1), (2, q_i x2), (3, q_i x3), (4, q_i x4)] (by decide) rfl rfl hy10 rfl dX8_closes_92 ?_
  refine aw_goto hK 18 rfl dX8_closes_95 ?_
  refine aw_sub [1, 2, 3, 4, 5, 0] (lv' := [(0, q_r 70), (1, q_i x1), (2, q_i x2), (3, q_i x3), (4, q_i x4), (5, q_i y10)]) rfl ?_
  exact hrec_18 hF
def B_X8_closes_84 (N : Nat) (rec_3 : Mem → Int32 → Int32 → Int32 → Int32 → Option Mem) (rec_18 : Mem → Int32 → Int32 → Int32 → Int32 → Int32 → Option Mem) (rec_38 : Mem → Int32 → Int32 → Int32 → Int32 → Int32 → Int32 → Option Mem) (m : Mem) (x1 : Int32) (x2 : Int32) (x3 : Int32) (x5 : Int32) (x6 : Int32) (s0 : Int32) : Option Mem :=
  bnd (x6 + (1 : Int32)) fun y9 =>
  rec_38 m x1 x2 x3 s0 x5 y9
set_option maxRecDepth 100000 in
set_option maxHeartbeats 4000000 in
theorem bk_X8_closes_84 {N : Nat} {K : KT} {m' : Mem} {rec_3 : Mem → Int32 → Int32 → Int32 → Int32 → Option Mem} {rec_18 : Mem → Int32 → Int32 → Int32 → Int32 → Int32 → Option Mem} {rec_38 : Mem → Int32 → Int32 → Int32 → Int32 → Int32 → Int32 → Option Mem} (hK : KOK K cX8_closes 7 RX8 wsX8_closes 3 0 74) (hR : KRet K none none m') (hrec_3 : ∀ {m : Mem} {x1 : Int32} {x2 : Int32} {x3 : Int32} {x4 : Int32}, rec_3 m x1 x2 x3 x4 = some m' → AW K 0 3 [(0, q_r 70), (1, q_i x1), (2, q_i x2), (3, q_i x3), (4, q_i x4)] [] m) (hrec_18 : ∀ {m : Mem} {x1 : Int32} {x2 : Int32} {x3 : Int32} {x4 : Int32} {x5 : Int32}, rec_18 m x1 x2 x3 x4 x5 = some m' → AW K 0 18 [(0, q_r 70), (1, q_i x1), (2, q_i x2), (3, q_i x3), (4, q_i x4), (5, q_i x5)] [] m) (hrec_38 : ∀ {m : Mem} {x1 : Int32} {x2 : Int32} {x3 : Int32} {x4 : Int32} {x5 : Int32} {x6 : Int32}, rec_38 m x1 x2 x3 x4 x5 x6 = some m' → AW K 0 38 [(0, q_r 70), (1, q_i x1), (2, q_i x2), (3, q_i x3), (4, q_i x4), (5, q_i x5), (6, q_i x6)] [] m) {m : Mem} {x1 : Int32} {x2 : Int32} {x3 : Int32} {x5 : Int32} {x6 : Int32} {s0 : Int32} (hF : B_X8_closes_84 N rec_3 rec_18 rec_38 m x1 x2 x3 x5 x6 s0 = some m') : AW K 0 84 [(0, q_r 70), (1, q_i x1), (2, q_i x2), (3, q_i x3), (5, q_i x5), (6, q_i x6)] [q_i s0] m := by
  unfold B_X8_closes_84 at hF
  refine aw_istore hK [(4, q_i s0), (0, q_r 70), (1, q_i x1), (2, q_i x2), (3, q_i x3), (5, q_i x5), (6, q_i x6)] (by decide) rfl dX8_closes_84 ?_
  obtain ⟨y9, hy9, hF⟩ := bnd_some hF
  refine aw_iinc hK (cz := 1) 6 [(6, q_i y9), (4, q_i s0), (0, q_r 70), (1, q_i x1), (2, q_i x2), (3, q_i x3), (5, q_i x5)] (by decide) rfl rfl hy9 rfl dX8_closes_86 ?_
  refine aw_goto hK 38 rfl dX8_closes_89 ?_
  refine aw_sub [2, 3, 4, 5, 1, 6, 0] (lv' := [(0, q_r 70), (1, q_i x1), (2, q_i x2), (3, q_i x3), (4, q_i s0), (5, q_i x5), (6, q_i y9)]) rfl ?_
  exact hrec_38 hF
def B_X8_closes_79 (N : Nat) (rec_3 : Mem → Int32 → Int32 → Int32 → Int32 → Option Mem) (rec_18 : Mem → Int32 → Int32 → Int32 → Int32 → Int32 → Option Mem) (rec_38 : Mem → Int32 → Int32 → Int32 → Int32 → Int32 → Int32 → Option Mem) (m : Mem) (x1 : Int32) (x2 : Int32) (x3 : Int32) (x5 : Int32) (x6 : Int32) : Option Mem :=
  B_X8_closes_84 N rec_3 rec_18 rec_38 m x1 x2 x3 x5 x6 (1 : Int32)
set_option maxRecDepth 100000 in
set_option maxHeartbeats 4000000 in
theorem bk_X8_closes_79 {N : Nat} {K : KT} {m' : Mem} {rec_3 : Mem → Int32 → Int32 → Int32 → Int32 → Option Mem} {rec_18 : Mem → Int32 → Int32 → Int32 → Int32 → Int32 → Option Mem} {rec_38 : Mem → Int32 → Int32 → Int32 → Int32 → Int32 → Int32 → Option Mem} (hK : KOK K cX8_closes 7 RX8 wsX8_closes 3 0 74) (hR : KRet K none none m') (hrec_3 : ∀ {m : Mem} {x1 : Int32} {x2 : Int32} {x3 : Int32} {x4 : Int32}, rec_3 m x1 x2 x3 x4 = some m' → AW K 0 3 [(0, q_r 70), (1, q_i x1), (2, q_i x2), (3, q_i x3), (4, q_i x4)] [] m) (hrec_18 : ∀ {m : Mem} {x1 : Int32} {x2 : Int32} {x3 : Int32} {x4 : Int32} {x5 : Int32}, rec_18 m x1 x2 x3 x4 x5 = some m' → AW K 0 18 [(0, q_r 70), (1, q_i x1), (2, q_i x2), (3, q_i x3), (4, q_i x4), (5, q_i x5)] [] m) (hrec_38 : ∀ {m : Mem} {x1 : Int32} {x2 : Int32} {x3 : Int32} {x4 : Int32} {x5 : Int32} {x6 : Int32}, rec_38 m x1 x2 x3 x4 x5 x6 = some m' → AW K 0 38 [(0, q_r 70), (1, q_i x1), (2, q_i x2), (3, q_i x3), (4, q_i x4), (5, q_i x5), (6, q_i x6)] [] m) {m : Mem} {x1 : Int32} {x2 : Int32} {x3 : Int32} {x5 : Int32} {x6 : Int32} (hF : B_X8_closes_79 N rec_3 rec_18 rec_38 m x1 x2 x3 x5 x6 = some m') : AW K 0 79 [(0, q_r 70), (1, q_i x1), (2, q_i x2), (3, q_i x3), (5, q_i x5), (6, q_i x6)] [] m := by
  unfold B_X8_closes_79 at hF
  refine aw_iconst hK (1) rfl dX8_closes_79 ?_
  refine aw_goto hK 84 rfl dX8_closes_80 ?_
  refine aw_sub [0, 1, 2, 3, 4, 5] (lv' := [(0, q_r 70), (1, q_i x1), (2, q_i x2), (3, q_i x3), (5, q_i x5), (6, q_i x6)]) rfl ?_
  exact bk_X8_closes_84 hK hR hrec_3 hrec_18 hrec_38 hF
def S_X8_closes_38 (N : Nat) (rec_3 : Mem → Int32 → Int32 → Int32 → Int32 → Option Mem) (rec_18 : Mem → Int32 → Int32 → Int32 → Int32 → Int32 → Option Mem) (rec_38 : Mem → Int32 → Int32 → Int32 → Int32 → Int32 → Int32 → Option Mem) (m : Mem) (x1 : Int32) (x2 : Int32) (x3 : Int32) (x4 : Int32) (x5 : Int32) (x6 : Int32) : Option Mem :=
  if (m 70 2) < x6 then (
    B_X8_closes_92 N rec_3 rec_18 m x1 x2 x3 x4 x5
  ) else (
    cal (F_X8_outOf N m x5 x2) fun r5 m4 =>
    if r5 = (8 : Int32) then (
      cal (F_X8_goesOn N m4 x1 x2 x3 x3 x5 x6) fun r8 m7 =>
      if r8 = (0 : Int32) then (
        if x4 = (0 : Int32) then (
          B_X8_closes_84 N rec_3 rec_18 rec_38 m7 x1 x2 x3 x5 x6 (0 : Int32)
        ) else (
          B_X8_closes_79 N rec_3 rec_18 rec_38 m7 x1 x2 x3 x5 x6
        )
      ) else (
        B_X8_closes_79 N rec_3 rec_18 rec_38 m7 x1 x2 x3 x5 x6
      )
    ) else (
      B_X8_closes_92 N rec_3 rec_18 m4 x1 x2 x3 x4 x5
    )
  )
def L_X8_closes_38 (N : Nat) (rec_3 : Mem → Int32 → Int32 → Int32 → Int32 → Option Mem) (rec_18 : Mem → Int32 → Int32 → Int32 → Int32 → Int32 → Option Mem) : Nat → Mem → Int32 → Int32 → Int32 → Int32 → Int32 → Int32 → Option Mem
  | 0 => fun _ _ _ _ _ _ _ => none
  | f + 1 => S_X8_closes_38 N rec_3 rec_18 (L_X8_closes_38 N rec_3 rec_18 f)
set_option maxRecDepth 100000 in
set_option maxHeartbeats 4000000 in
theorem lp_X8_closes_38 {N : Nat} {K : KT} {m' : Mem} {rec_3 : Mem → Int32 → Int32 → Int32 → Int32 → Option Mem} {rec_18 : Mem → Int32 → Int32 → Int32 → Int32 → Int32 → Option Mem} (hK : KOK K cX8_closes 7 RX8 wsX8_closes 3 0 74) (hR : KRet K none none m') (hrec_3 : ∀ {m : Mem} {x1 : Int32} {x2 : Int32} {x3 : Int32} {x4 : Int32}, rec_3 m x1 x2 x3 x4 = some m' → AW K 0 3 [(0, q_r 70), (1, q_i x1), (2, q_i x2), (3, q_i x3), (4, q_i x4)] [] m) (hrec_18 : ∀ {m : Mem} {x1 : Int32} {x2 : Int32} {x3 : Int32} {x4 : Int32} {x5 : Int32}, rec_18 m x1 x2 x3 x4 x5 = some m' → AW K 0 18 [(0, q_r 70), (1, q_i x1), (2, q_i x2), (3, q_i x3), (4, q_i x4), (5, q_i x5)] [] m) : ∀ (f : Nat) {m : Mem} {x1 : Int32} {x2 : Int32} {x3 : Int32} {x4 : Int32} {x5 : Int32} {x6 : Int32}, L_X8_closes_38 N rec_3 rec_18 f m x1 x2 x3 x4 x5 x6 = some m' → AW K 0 38 [(0, q_r 70), (1, q_i x1), (2, q_i x2), (3, q_i x3), (4, q_i x4), (5, q_i x5), (6, q_i x6)] [] m := by
  intro f
  induction f with
  | zero => intro m x1 x2 x3 x4 x5 x6 hF; cases hF
  | succ f hrec_38 =>
    intro m x1 x2 x3 x4 x5 x6 hF
    have hF : S_X8_closes_38 N rec_3 rec_18 (L_X8_closes_38 N rec_3 rec_18 f) m x1 x2 x3 x4 x5 x6 = some m' := hF
    unfold S_X8_closes_38 at hF
    refine aw_iload hK 6 rfl dX8_closes_38 ?_
    refine aw_aload_n hK 0 rfl dX8_closes_40 ?_
    refine gf_8_2 hK rfl (List.mem_of_getElem? (i := 2) rfl) dX8_closes_41 ?_
    refine aw_icmp_gt hK 92 rfl dX8_closes_44 (fun hc => ?_) (fun hc => ?_)
    · have hF := if_t hF hc
      refine aw_sub [0, 1, 2, 3, 4, 5] (lv' := [(0, q_r 70), (1, q_i x1), (2, q_i x2), (3, q_i x3), (4, q_i x4), (5, q_i x5)]) rfl ?_
      exact bk_X8_closes_92 hK hR hrec_3 hrec_18 hF
    · have hF := if_f hF hc
      refine aw_aload_n hK 0 rfl dX8_closes_47 ?_
      refine aw_iload hK 5 rfl dX8_closes_48 ?_
      refine aw_iload_n hK 2 rfl dX8_closes_50 ?_
      obtain ⟨r5, m4, h3, hF⟩ := cal_some hF
      refine aw_cv hK 8 (as := [q_i x5, q_i x2]) (tr_X8_outOf h3) gX8_closes_X8_outOf rfl rfl rfl (by decide) (na := 2) (by decide +kernel) rfl ⟨by decide, by decide⟩ (Nat.zero_le _) (Nat.le_of_ble_eq_true rfl) dX8_closes_51 ?_
      refine aw_bipush hK (8) rfl dX8_closes_54 ?_
      refine aw_icmp_ne hK 92 rfl dX8_closes_56 (fun hc => ?_) (fun hc => ?_)
      · have hF := if_f hF hc
        refine aw_sub [0, 1, 2, 3, 4, 5] (lv' := [(0, q_r 70), (1, q_i x1), (2, q_i x2), (3, q_i x3), (4, q_i x4), (5, q_i x5)]) rfl ?_
        exact bk_X8_closes_92 hK hR hrec_3 hrec_18 hF
      · have hF := if_t hF hc
        refine aw_aload_n hK 0 rfl dX8_closes_59 ?_
        refine aw_iload_n hK 1 rfl dX8_closes_60 ?_
        refine aw_iload_n hK 2 rfl dX8_closes_61 ?_
        refine aw_iload_n hK 3 rfl dX8_closes_62 ?_
        refine aw_iload_n hK 3 rfl dX8_closes_63 ?_
        refine aw_iload hK 5 rfl dX8_closes_64 ?_
        refine aw_iload hK 6 rfl dX8_closes_66 ?_
        obtain ⟨r8, m7, h6, hF⟩ := cal_some hF
        refine aw_cv hK 8 (as := [q_i x1, q_i x2, q_i x3, q_i x3, q_i x5, q_i x6]) (tr_X8_goesOn h6) gX8_closes_X8_goesOn rfl rfl rfl (by decide) (na := 6) (by decide +kernel) rfl ⟨by decide, by decide⟩ (Nat.zero_le _) (Nat.le_of_ble_eq_true rfl) dX8_closes_68 ?_
        refine aw_if_ne hK 79 rfl dX8_closes_71 (fun hc => ?_) (fun hc => ?_)
        · have hF := if_f hF hc
          refine aw_sub [0, 1, 2, 3, 5, 6] (lv' := [(0, q_r 70), (1, q_i x1), (2, q_i x2), (3, q_i x3), (5, q_i x5), (6, q_i x6)]) rfl ?_
          exact bk_X8_closes_79 hK hR hrec_3 hrec_18 hrec_38 hF
        · have hF := if_t hF hc
          refine aw_iload hK 4 rfl dX8_closes_74 ?_
          refine aw_if_eq hK 83 rfl dX8_closes_76 (fun hc => ?_) (fun hc => ?_)
          · have hF := if_t hF hc
            refine aw_iconst hK (0) rfl dX8_closes_83 ?_
            refine aw_sub [0, 1, 2, 3, 5, 6] (lv' := [(0, q_r 70), (1, q_i x1), (2, q_i x2), (3, q_i x3), (5, q_i x5), (6, q_i x6)]) rfl ?_
            exact bk_X8_closes_84 hK hR hrec_3 hrec_18 hrec_38 hF
          · have hF := if_f hF hc
            refine aw_sub [0, 1, 2, 3, 5, 6] (lv' := [(0, q_r 70), (1, q_i x1), (2, q_i x2), (3, q_i x3), (5, q_i x5), (6, q_i x6)]) rfl ?_
            exact bk_X8_closes_79 hK hR hrec_3 hrec_18 hrec_38 hF
def S_X8_closes_18 (N : Nat) (rec_3 : Mem → Int32 → Int32 → Int32 → Int32 → Option Mem) (rec_18 : Mem → Int32 → Int32 → Int32 → Int32 → Int32 → Option Mem) (m : Mem) (x1 : Int32) (x2 : Int32) (x3 : Int32) (x4 : Int32) (x5 : Int32) : Option Mem :=
  gd (inb x1 (alen 74)) <|
  if (((160 : Int32) * x1) + (m 74 (ix x1))) ≤ x5 then (
    rec_3 m x1 x2 x3 x4
  ) else (
    L_X8_closes_38 N rec_3 rec_18 N m x1 x2 x3 x4 x5 (0 : Int32)
  )
def L_X8_closes_18 (N : Nat) (rec_3 : Mem → Int32 → Int32 → Int32 → Int32 → Option Mem) : Nat → Mem → Int32 → Int32 → Int32 → Int32 → Int32 → Option Mem
  | 0 => fun _ _ _ _ _ _ => none
  | f + 1 => S_X8_closes_18 N rec_3 (L_X8_closes_18 N rec_3 f)
set_option maxRecDepth 100000 in
set_option maxHeartbeats 4000000 in
theorem lp_X8_closes_18 {N : Nat} {K : KT} {m' : Mem} {rec_3 : Mem → Int32 → Int32 → Int32 → Int32 → Option Mem} (hK : KOK K cX8_closes 7 RX8 wsX8_closes 3 0 74) (hR : KRet K none none m') (hrec_3 : ∀ {m : Mem} {x1 : Int32} {x2 : Int32} {x3 : Int32} {x4 : Int32}, rec_3 m x1 x2 x3 x4 = some m' → AW K 0 3 [(0, q_r 70), (1, q_i x1), (2, q_i x2), (3, q_i x3), (4, q_i x4)] [] m) : ∀ (f : Nat) {m : Mem} {x1 : Int32} {x2 : Int32} {x3 : Int32} {x4 : Int32} {x5 : Int32}, L_X8_closes_18 N rec_3 f m x1 x2 x3 x4 x5 = some m' → AW K 0 18 [(0, q_r 70), (1, q_i x1), (2, q_i x2), (3, q_i x3), (4, q_i x4), (5, q_i x5)] [] m := by
  intro f
  induction f with
  | zero => intro m x1 x2 x3 x4 x5 hF; cases hF
  | succ f hrec_18 =>
    intro m x1 x2 x3 x4 x5 hF
    have hF : S_X8_closes_18 N rec_3 (L_X8_closes_18 N rec_3 f) m x1 x2 x3 x4 x5 = some m' := hF
    unfold S_X8_closes_18 at hF
    refine aw_iload hK 5 rfl dX8_closes_18 ?_
    refine aw_sipush hK (160) rfl dX8_closes_20 ?_
    refine aw_iload_n hK 1 rfl dX8_closes_23 ?_
    refine aw_imul hK dX8_closes_24 ?_
    refine aw_aload_n hK 0 rfl dX8_closes_25 ?_
    refine gf_8_5 hK rfl (74) rfl (List.mem_of_getElem? (i := 1) rfl) dX8_closes_26 ?_
    refine aw_iload_n hK 1 rfl dX8_closes_29 ?_
    obtain ⟨g2, hF⟩ := gd_some hF
    refine aw_iald hK rfl g2 dX8_closes_30 ?_
    refine aw_iadd hK dX8_closes_31 ?_
    refine aw_icmp_ge hK 98 rfl dX8_closes_32 (fun hc => ?_) (fun hc => ?_)
    · have hF := if_t hF hc
      refine aw_goto hK 3 rfl dX8_closes_98 ?_
      refine aw_sub [0, 1, 2, 3, 4] (lv' := [(0, q_r 70), (1, q_i x1), (2, q_i x2), (3, q_i x3), (4, q_i x4)]) rfl ?_
      exact hrec_3 hF
    · have hF := if_f hF hc
      refine aw_iconst hK (0) rfl dX8_closes_35 ?_
      refine aw_istore hK [(6, q_i (0 : Int32)), (0, q_r 70), (1, q_i x1), (2, q_i x2), (3, q_i x3), (4, q_i x4), (5, q_i x5)] (by decide) rfl dX8_closes_36 ?_
      refine aw_sub [1, 2, 3, 4, 5, 6, 0] (lv' := [(0, q_r 70), (1, q_i x1), (2, q_i x2), (3, q_i x3), (4, q_i x4), (5, q_i x5), (6, q_i (0 : Int32))]) rfl ?_
      exact lp_X8_closes_38 hK hR hrec_3 hrec_18 _ hF
def S_X8_closes_3 (N : Nat) (rec_3 : Mem → Int32 → Int32 → Int32 → Int32 → Option Mem) (m : Mem) (x1 : Int32) (x2 : Int32) (x3 : Int32) (x4 : Int32) : Option Mem :=
  if x4 = (0 : Int32) then (
    some m
  ) else (
    bnd ((160 : Int32) * x1) fun y1 =>
    L_X8_closes_18 N rec_3 N m x1 x2 x3 (0 : Int32) y1
  )
def L_X8_closes_3 (N : Nat) : Nat → Mem → Int32 → Int32 → Int32 → Int32 → Option Mem
  | 0 => fun _ _ _ _ _ => none
  | f + 1 => S_X8_closes_3 N (L_X8_closes_3 N f)
set_option maxRecDepth 100000 in
set_option maxHeartbeats 4000000 in
theorem lp_X8_closes_3 {N : Nat} {K : KT} {m' : Mem} (hK : KOK K cX8_closes 7 RX8 wsX8_closes 3 0 74) (hR : KRet K none none m') : ∀ (f : Nat) {m : Mem} {x1 : Int32} {x2 : Int32} {x3 : Int32} {x4 : Int32}, L_X8_closes_3 N f m x1 x2 x3 x4 = some m' → AW K 0 3 [(0, q_r 70), (1, q_i x1), (2, q_i x2), (3, q_i x3), (4, q_i x4)] [] m := by
  intro f
  induction f with
  | zero => intro m x1 x2 x3 x4 hF; cases hF
  | succ f hrec_3 =>
    intro m x1 x2 x3 x4 hF
    have hF : S_X8_closes_3 N (L_X8_closes_3 N f) m x1 x2 x3 x4 = some m' := hF
    unfold S_X8_closes_3 at hF
    refine aw_iload hK 4 rfl dX8_closes_3 ?_
    refine aw_if_eq hK 101 rfl dX8_closes_5 (fun hc => ?_) (fun hc => ?_)
    · have hF := if_t hF hc
      obtain rfl := Option.some.inj hF
      exact aw_vret hK hR dX8_closes_101
    · have hF := if_f hF hc
      refine aw_iconst hK (0) rfl dX8_closes_8 ?_
      refine aw_istore hK [(4, q_i (0 : Int32)), (0, q_r 70), (1, q_i x1), (2, q_i x2), (3, q_i x3)] (by decide) rfl dX8_closes_9 ?_
      refine aw_sipush hK (160) rfl dX8_closes_11 ?_
      refine aw_iload_n hK 2 rfl dX8_closes_14 ?_
      refine aw_imul hK dX8_closes_15 ?_
      obtain ⟨y1, hy1, hF⟩ := bnd_some hF
      refine aw_nm hy1 ?_
      refine aw_istore hK [(5, q_i y1), (4, q_i (0 : Int32)), (0, q_r 70), (1, q_i x1), (2, q_i x2), (3, q_i x3)] (by decide) rfl dX8_closes_16 ?_
      refine aw_sub [2, 3, 4, 5, 1, 0] (lv' := [(0, q_r 70), (1, q_i x1), (2, q_i x2), (3, q_i x3), (4, q_i (0 : Int32)), (5, q_i y1)]) rfl ?_
      exact lp_X8_closes_18 hK hR hrec_3 _ hF
def F_X8_closes (N : Nat) (m : Mem) (x1 : Int32) (x2 : Int32) (x3 : Int32) : Option Mem :=
  L_X8_closes_3 N N m x1 x2 x3 (1 : Int32)
set_option maxRecDepth 100000 in
set_option maxHeartbeats 4000000 in
theorem tr_X8_closes {N : Nat} {m m' : Mem} {x1 : Int32} {x2 : Int32} {x3 : Int32} (hF : F_X8_closes N m x1 x2 x3 = some m') : Tr yX8_closes wsX8_closes 3 74 [q_r 70, q_i x1, q_i x2, q_i x3] m none m' := by
  refine tr_of (bytes := cX8_closes) (maxL := 7) (ret := none) (by decide) rfl (Nat.le_of_ble_eq_true rfl) (fun K hK hR => ?_)
  have hK : KOK K cX8_closes 7 RX8 wsX8_closes 3 0 74 := hK
  show AW K 0 0 [(0, q_r 70), (1, q_i x1), (2, q_i x2), (3, q_i x3)] [] m
  unfold F_X8_closes at hF
  refine aw_iconst hK (1) rfl dX8_closes_0 ?_
  refine aw_istore hK [(4, q_i (1 : Int32)), (0, q_r 70), (1, q_i x1), (2, q_i x2), (3, q_i x3)] (by decide) rfl dX8_closes_1 ?_
  refine aw_sub [1, 2, 3, 4, 0] (lv' := [(0, q_r 70), (1, q_i x1), (2, q_i x2), (3, q_i x3), (4, q_i (1 : Int32))]) rfl ?_
  exact lp_X8_closes_3 hK hR _ hF
def S_X8_empties_2 (N : Nat) (rec_2 : Mem → Int32 → Int32 → Option Mem) (m : Mem) (x1 : Int32) (x2 : Int32) : Option Mem :=
  if (288 : Int32) ≤ x2 then (
    some m
  ) else (
    gd (inb (((288 : Int32) * x1) + x2) (alen 102)) <|
    bnd (mup m 102 (ix (((288 : Int32) * x1) + x2)) (0 : Int32)) fun m2 =>
    bnd (x2 + (1 : Int32)) fun y3 =>
    rec_2 m2 x1 y3
  )
def L_X8_empties_2 (N : Nat) : Nat → Mem → Int32 → Int32 → Option Mem
  | 0 => fun _ _ _ => none
  | f + 1 => S_X8_empties_2 N (L_X8_empties_2 N f)
set_option maxRecDepth 100000 in
set_option maxHeartbeats 4000000 in
theorem lp_X8_empties_2 {N : Nat} {K : KT} {m' : Mem} (hK : KOK K cX8_empties 3 RX8 wsX8_empties 0 0 0) (hR : KRet K none none m') : ∀ (f : Nat) {m : Mem} {x1 : Int32} {x2 : Int32}, L_X8_empties_2 N f m x1 x2 = some m' → AW K 0 2 [(0, q_r 70), (1, q_i x1), (2, q_i x2)] [] m := by
  intro f
  induction f with
  | zero => intro m x1 x2 hF; cases hF
  | succ f hrec_2 =>
    intro m x1 x2 hF
    have hF : S_X8_empties_2 N (L_X8_empties_2 N f) m x1 x2 = some m' := hF
    unfold S_X8_empties_2 at hF
    refine aw_iload_n hK 2 rfl dX8_empties_2 ?_
    refine aw_sipush hK (288) rfl dX8_empties_3 ?_
    refine aw_icmp_ge hK 28 rfl dX8_empties_6 (fun hc => ?_) (fun hc => ?_)
    · have hF := if_t hF hc
      obtain rfl := Option.some.inj hF
      exact aw_vret hK hR dX8_empties_28
    · have hF := if_f hF hc
      refine aw_aload_n hK 0 rfl dX8_empties_9 ?_
      refine gf_8_39 hK rfl (102) rfl (List.mem_of_getElem? (i := 1) rfl) dX8_empties_10 ?_
      refine aw_sipush hK (288) rfl dX8_empties_13 ?_
      refine aw_iload_n hK 1 rfl dX8_empties_16 ?_
      refine aw_imul hK dX8_empties_17 ?_
      refine aw_iload_n hK 2 rfl dX8_empties_18 ?_
      refine aw_iadd hK dX8_empties_19 ?_
      refine aw_iconst hK (0) rfl dX8_empties_20 ?_
      obtain ⟨g1, hF⟩ := gd_some hF
      refine aw_zast hK rfl g1 rfl dX8_empties_21 ?_
      obtain ⟨m2, hm2, hF⟩ := bnd_some hF
      refine aw_mm hm2 ?_
      obtain ⟨y3, hy3, hF⟩ := bnd_some hF
      refine aw_iinc hK (cz := 1) 2 [(2, q_i y3), (0, q_r 70), (1, q_i x1)] (by decide) rfl rfl hy3 rfl dX8_empties_22 ?_
      refine aw_goto hK 2 rfl dX8_empties_25 ?_
      refine aw_sub [1, 2, 0] (lv' := [(0, q_r 70), (1, q_i x1), (2, q_i y3)]) rfl ?_
      exact hrec_2 hF
def F_X8_empties (N : Nat) (m : Mem) (x1 : Int32) : Option Mem :=
  L_X8_empties_2 N N m x1 (0 : Int32)
set_option maxRecDepth 100000 in
set_option maxHeartbeats 4000000 in
theorem tr_X8_empties {N : Nat} {m m' : Mem} {x1 : Int32} (hF : F_X8_empties N m x1 = some m') : Tr yX8_empties wsX8_empties 0 0 [q_r 70, q_i x1] m none m' := by
  refine tr_of (bytes := cX8_empties) (maxL := 3) (ret := none) (by decide) rfl (Nat.le_of_ble_eq_true rfl) (fun K hK hR => ?_)
  have hK : KOK K cX8_empties 3 RX8 wsX8_empties 0 0 0 := hK
  show AW K 0 0 [(0, q_r 70), (1, q_i x1)] [] m
  unfold F_X8_empties at hF
  refine aw_iconst hK (0) rfl dX8_empties_0 ?_
  refine aw_istore_n hK [(2, q_i (0 : Int32)), (0, q_r 70), (1, q_i x1)] (by decide) rfl dX8_empties_1 ?_
  refine aw_sub [1, 2, 0] (lv' := [(0, q_r 70), (1, q_i x1), (2, q_i (0 : Int32))]) rfl ?_
  exact lp_X8_empties_2 hK hR _ hF
def B_X8_goesBy_113 (N : Nat) (m : Mem) (x5 : Int32) : Option (Int32 × Mem) :=
  gd (isb x5) <|
  some (x5, m)
set_option maxRecDepth 100000 in
set_option maxHeartbeats 4000000 in
theorem bk_X8_goesBy_113 {N : Nat} {K : KT} {m' : Mem} {r : Int32} (hK : KOK K cX8_goesBy 8 RX8 wsX8_goesBy 4 0 100) (hR : KRet K (some .boolean) (some r) m') {m : Mem} {x5 : Int32} (hF : B_X8_goesBy_113 N m x5 = some (r, m')) : AW K 0 113 [(5, q_i x5)] [] m := by
  unfold B_X8_goesBy_113 at hF
  refine aw_iload hK 0 rfl dX8_goesBy_113 ?_
  obtain ⟨g15, hF⟩ := gd_some hF
  obtain ⟨rfl, rfl⟩ := so_inj hF
  exact aw_iret hK hR (isb_narrow g15) dX8_goesBy_115
def B_X8_goesBy_93 (N : Nat) (rec_17 : Mem → Int32 → Int32 → Int32 → Int32 → Int32 → Int32 → Option (Int32 × Mem)) (m : Mem) (x1 : Int32) (x2 : Int32) (x3 : Int32) (x4 : Int32) (x5 : Int32) (x6 : Int32) : Option (Int32 × Mem) :=
  bnd (x6 + (1 : Int32)) fun y14 =>
  rec_17 m x1 x2 x3 x4 x5 y14
set_option maxRecDepth 100000 in
set_option maxHeartbeats 4000000 in
theorem bk_X8_goesBy_93 {N : Nat} {K : KT} {m' : Mem} {rec_17 : Mem → Int32 → Int32 → Int32 → Int32 → Int32 → Int32 → Option (Int32 × Mem)} {r : Int32} (hK : KOK K cX8_goesBy 8 RX8 wsX8_goesBy 4 0 100) (hR : KRet K (some .boolean) (some r) m') (hrec_17 : ∀ {m : Mem} {x1 : Int32} {x2 : Int32} {x3 : Int32} {x4 : Int32} {x5 : Int32} {x6 : Int32}, rec_17 m x1 x2 x3 x4 x5 x6 = some (r, m') → AW K 0 17 [(0, q_r 70), (1, q_i x1), (2, q_i x2), (3, q_i x3), (4, q_i x4), (5, q_i x5), (6, q_i x6)] [] m) {m : Mem} {x1 : Int32} {x2 : Int32} {x3 : Int32} {x4 : Int32} {x5 : Int32} {x6 : Int32} (hF : B_X8_goesBy_93 N rec_17 m x1 x2 x3 x4 x5 x6 = some (r, m')) : AW K 0 93 [(0, q_r 70), (1, q_i x1), (2, q_i x2), (3, q_i x3), (4, q_i x4), (5, q_i x5), (6, q_i x6)] [] m := by
  unfold B_X8_goesBy_93 at hF
  obtain ⟨y14, hy14, hF⟩ := bnd_some hF
  refine aw_iinc hK (cz := 1) 6 [(6, q_i y14), (0, q_r 70), (1, q_i x1), (2, q_i x2), (3, q_i x3), (4, q_i x4), (5, q_i x5)] (by decide) rfl rfl hy14 rfl dX8_goesBy_93 ?_
  refine aw_goto hK 17 rfl dX8_goesBy_96 ?_
  refine aw_sub [1, 2, 3, 4, 5, 6, 0] (lv' := [(0, q_r 70), (1, q_i x1), (2, q_i x2), (3, q_i x3), (4, q_i x4), (5, q_i x5), (6, q_i y14)]) rfl ?_
  exact hrec_17 hF
def B_X8_goesBy_85 (N : Nat) (rec_17 : Mem → Int32 → Int32 → Int32 → Int32 → Int32 → Int32 → Option (Int32 × Mem)) (rec_37 : Mem → Int32 → Int32 → Int32 → Int32 → Int32 → Int32 → Int32 → Option (Int32 × Mem)) (m : Mem) (x1 : Int32) (x2 : Int32) (x3 : Int32) (x4 : Int32) (x6 : Int32) (x7 : Int32) (s0 : Int32) : Option (Int32 × Mem) :=
  bnd (x7 + (1 : Int32)) fun y13 =>
  rec_37 m x1 x2 x3 x4 s0 x6 y13
set_option maxRecDepth 100000 in
set_option maxHeartbeats 4000000 in
theorem bk_X8_goesBy_85 {N : Nat} {K : KT} {m' : Mem} {rec_17 : Mem → Int32 → Int32 → Int32 → Int32 → Int32 → Int32 → Option (Int32 × Mem)} {rec_37 : Mem → Int32 → Int32 → Int32 → Int32 → Int32 → Int32 → Int32 → Option (Int32 × Mem)} {r : Int32} (hK : KOK K cX8_goesBy 8 RX8 wsX8_goesBy 4 0 100) (hR : KRet K (some .boolean) (some r) m') (hrec_17 : ∀ {m : Mem} {x1 : Int32} {x2 : Int32} {x3 : Int32} {x4 : Int32} {x5 : Int32} {x6 : Int32}, rec_17 m x1 x2 x3 x4 x5 x6 = some (r, m') → AW K 0 17 [(0, q_r 70), (1, q_i x1), (2, q_i x2), (3, q_i x3), (4, q_i x4), (5, q_i x5), (6, q_i x6)] [] m) (hrec_37 : ∀ {m : Mem} {x1 : Int32} {x2 : Int32} {x3 : Int32} {x4 : Int32} {x5 : Int32} {x6 : Int32} {x7 : Int32}, rec_37 m x1 x2 x3 x4 x5 x6 x7 = some (r, m') → AW K 0 37 [(0, q_r 70), (1, q_i x1), (2, q_i x2), (3, q_i x3), (4, q_i x4), (5, q_i x5), (6, q_i x6), (7, q_i x7)] [] m) {m : Mem} {x1 : Int32} {x2 : Int32} {x3 : Int32} {x4 : Int32} {x6 : Int32} {x7 : Int32} {s0 : Int32} (hF : B_X8_goesBy_85 N rec_17 rec_37 m x1 x2 x3 x4 x6 x7 s0 = some (r, m')) : AW K 0 85 [(0, q_r 70), (1, q_i x1), (2, q_i x2), (3, q_i x3), (4, q_i x4), (6, q_i x6), (7, q_i x7)] [q_i s0] m := by
  unfold B_X8_goesBy_85 at hF
  refine aw_istore hK [(5, q_i s0), (0, q_r 70), (1, q_i x1), (2, q_i x2), (3, q_i x3), (4, q_i x4), (6, q_i x6), (7, q_i x7)] (by decide) rfl dX8_goesBy_85 ?_
  obtain ⟨y13, hy13, hF⟩ := bnd_some hF
  refine aw_iinc hK (cz := 1) 7 [(7, q_i y13), (5, q_i s0), (0, q_r 70), (1, q_i x1), (2, q_i x2), (3, q_i x3), (4, q_i x4), (6, q_i x6)] (by decide) rfl rfl hy13 rfl dX8_goesBy_87 ?_
  refine aw_goto hK 37 rfl dX8_goesBy_90 ?_
  refine aw_sub [2, 3, 4, 5, 6, 1, 7, 0] (lv' := [(0, q_r 70), (1, q_i x1), (2, q_i x2), (3, q_i x3), (4, q_i x4), (5, q_i s0), (6, q_i x6), (7, q_i y13)]) rfl ?_
  exact hrec_37 hF
def B_X8_goesBy_80 (N : Nat) (rec_17 : Mem → Int32 → Int32 → Int32 → Int32 → Int32 → Int32 → Option (Int32 × Mem)) (rec_37 : Mem → Int32 → Int32 → Int32 → Int32 → Int32 → Int32 → Int32 → Option (Int32 × Mem)) (m : Mem) (x1 : Int32) (x2 : Int32) (x3 : Int32) (x4 : Int32) (x6 : Int32) (x7 : Int32) : Option (Int32 × Mem) :=
  B_X8_goesBy_85 N rec_17 rec_37 m x1 x2 x3 x4 x6 x7 (1 : Int32)
set_option maxRecDepth 100000 in
set_option maxHeartbeats 4000000 in
theorem bk_X8_goesBy_80 {N : Nat} {K : KT} {m' : Mem} {rec_17 : Mem → Int32 → Int32 → Int32 → Int32 → Int32 → Int32 → Option (Int32 × Mem)} {rec_37 : Mem → Int32 → Int32 → Int32 → Int32 → Int32 → Int32 → Int32 → Option (Int32 × Mem)} {r : Int32} (hK : KOK K cX8_goesBy 8 RX8 wsX8_goesBy 4 0 100) (hR : KRet K (some .boolean) (some r) m') (hrec_17 : ∀ {m : Mem} {x1 : Int32} {x2 : Int32} {x3 : Int32} {x4 : Int32} {x5 : Int32} {x6 : Int32}, rec_17 m x1 x2 x3 x4 x5 x6 = some (r, m') → AW K 0 17 [(0, q_r 70), (1, q_i x1), (2, q_i x2), (3, q_i x3), (4, q_i x4), (5, q_i x5), (6, q_i x6)] [] m) (hrec_37 : ∀ {m : Mem} {x1 : Int32} {x2 : Int32} {x3 : Int32} {x4 : Int32} {x5 : Int32} {x6 : Int32} {x7 : Int32}, rec_37 m x1 x2 x3 x4 x5 x6 x7 = some (r, m') → AW K 0 37 [(0, q_r 70), (1, q_i x1), (2, q_i x2), (3, q_i x3), (4, q_i x4), (5, q_i x5), (6, q_i x6), (7, q_i x7)] [] m) {m : Mem} {x1 : Int32} {x2 : Int32} {x3 : Int32} {x4 : Int32} {x6 : Int32} {x7 : Int32} (hF : B_X8_goesBy_80 N rec_17 rec_37 m x1 x2 x3 x4 x6 x7 = some (r, m')) : AW K 0 80 [(0, q_r 70), (1, q_i x1), (2, q_i x2), (3, q_i x3), (4, q_i x4), (6, q_i x6), (7, q_i x7)] [] m := by
  unfold B_X8_goesBy_80 at hF
  refine aw_iconst hK (1) rfl dX8_goesBy_80 ?_
  refine aw_goto hK 85 rfl dX8_goesBy_81 ?_
  refine aw_sub [0, 1, 2, 3, 4, 5, 6] (lv' := [(0, q_r 70), (1, q_i x1), (2, q_i x2), (3, q_i x3), (4, q_i x4), (6, q_i x6), (7, q_i x7)]) rfl ?_
  exact bk_X8_goesBy_85 hK hR hrec_17 hrec_37 hF
def S_X8_goesBy_37 (N : Nat) (rec_17 : Mem → Int32 → Int32 → Int32 → Int32 → Int32 → Int32 → Option (Int32 × Mem)) (rec_37 : Mem → Int32 → Int32 → Int32 → Int32 → Int32 → Int32 → Int32 → Option (Int32 × Mem)) (m : Mem) (x1 : Int32) (x2 : Int32) (x3 : Int32) (x4 : Int32) (x5 : Int32) (x6 : Int32) (x7 : Int32) : Option (Int32 × Mem) :=
  if (m 70 2) < x7 then (
    B_X8_goesBy_93 N rec_17 m x1 x2 x3 x4 x5 x6
  ) else (
    cal (F_X8_outOf N m x6 x2) fun r9 m8 =>
    if r9 = x4 then (
      cal (F_X8_goesOn N m8 x1 x2 x3 (x3 + (1 : Int32)) x6 x7) fun r12 m11 =>
      if r12 = (0 : Int32) then (
        if x5 = (0 : Int32) then (
          B_X8_goesBy_85 N rec_17 rec_37 m11 x1 x2 x3 x4 x6 x7 (0 : Int32)
        ) else (
          B_X8_goesBy_80 N rec_17 rec_37 m11 x1 x2 x3 x4 x6 x7
        )
      ) else (
        B_X8_goesBy_80 N rec_17 rec_37 m11 x1 x2 x3 x4 x6 x7
      )
    ) else (
      B_X8_goesBy_93 N rec_17 m8 x1 x2 x3 x4 x5 x6
    )
  )
def L_X8_goesBy_37 (N : Nat) (rec_17 : Mem → Int32 → Int32 → Int32 → Int32 → Int32 → Int32 → Option (Int32 × Mem)) : Nat → Mem → Int32 → Int32 → Int32 → Int32 → Int32 → Int32 → Int32 → Option (Int32 × Mem)
  | 0 => fun _ _ _ _ _ _ _ _ => none
  | f + 1 => S_X8_goesBy_37 N rec_17 (L_X8_goesBy_37 N rec_17 f)
set_option maxRecDepth 100000 in
set_option maxHeartbeats 4000000 in
theorem lp_X8_goesBy_37 {N : Nat} {K : KT} {m' : Mem} {rec_17 : Mem → Int32 → Int32 → Int32 → Int32 → Int32 → Int32 → Option (Int32 × Mem)} {r : Int32} (hK : KOK K cX8_goesBy 8 RX8 wsX8_goesBy 4 0 100) (hR : KRet K (some .boolean) (some r) m') (hrec_17 : ∀ {m : Mem} {x1 : Int32} {x2 : Int32} {x3 : Int32} {x4 : Int32} {x5 : Int32} {x6 : Int32}, rec_17 m x1 x2 x3 x4 x5 x6 = some (r, m') → AW K 0 17 [(0, q_r 70), (1, q_i x1), (2, q_i x2), (3, q_i x3), (4, q_i x4), (5, q_i x5), (6, q_i x6)] [] m) : ∀ (f : Nat) {m : Mem} {x1 : Int32} {x2 : Int32} {x3 : Int32} {x4 : Int32} {x5 : Int32} {x6 : Int32} {x7 : Int32}, L_X8_goesBy_37 N rec_17 f m x1 x2 x3 x4 x5 x6 x7 = some (r, m') → AW K 0 37 [(0, q_r 70), (1, q_i x1), (2, q_i x2), (3, q_i x3), (4, q_i x4), (5, q_i x5), (6, q_i x6), (7, q_i x7)] [] m := by
  intro f
  induction f with
  | zero => intro m x1 x2 x3 x4 x5 x6 x7 hF; cases hF
  | succ f hrec_37 =>
    intro m x1 x2 x3 x4 x5 x6 x7 hF
    have hF : S_X8_goesBy_37 N rec_17 (L_X8_goesBy_37 N rec_17 f) m x1 x2 x3 x4 x5 x6 x7 = some (r, m') := hF
    unfold S_X8_goesBy_37 at hF
    refine aw_iload hK 7 rfl dX8_goesBy_37 ?_
    refine aw_aload_n hK 0 rfl dX8_goesBy_39 ?_
    refine gf_8_2 hK rfl (List.mem_of_getElem? (i := 2) rfl) dX8_goesBy_40 ?_
    refine aw_icmp_gt hK 93 rfl dX8_goesBy_43 (fun hc => ?_) (fun hc => ?_)
    · have hF := if_t hF hc
      refine aw_sub [0, 1, 2, 3, 4, 5, 6] (lv' := [(0, q_r 70), (1, q_i x1), (2, q_i x2), (3, q_i x3), (4, q_i x4), (5, q_i x5), (6, q_i x6)]) rfl ?_
      exact bk_X8_goesBy_93 hK hR hrec_17 hF
    · have hF := if_f hF hc
      refine aw_aload_n hK 0 rfl dX8_goesBy_46 ?_
      refine aw_iload hK 6 rfl dX8_goesBy_47 ?_
      refine aw_iload_n hK 2 rfl dX8_goesBy_49 ?_
      obtain ⟨r9, m8, h7, hF⟩ := cal_some hF
      refine aw_cv hK 8 (as := [q_i x6, q_i x2]) (tr_X8_outOf h7) gX8_goesBy_X8_outOf rfl rfl rfl (by decide) (na := 2) (by decide +kernel) rfl ⟨by decide, by decide⟩ (Nat.zero_le _) (Nat.le_of_ble_eq_true rfl) dX8_goesBy_50 ?_
      refine aw_iload hK 4 rfl dX8_goesBy_53 ?_
      refine aw_icmp_ne hK 93 rfl dX8_goesBy_55 (fun hc => ?_) (fun hc => ?_)
      · have hF := if_f hF hc
        refine aw_sub [0, 1, 2, 3, 4, 5, 6] (lv' := [(0, q_r 70), (1, q_i x1), (2, q_i x2), (3, q_i x3), (4, q_i x4), (5, q_i x5), (6, q_i x6)]) rfl ?_
        exact bk_X8_goesBy_93 hK hR hrec_17 hF
      · have hF := if_t hF hc
        refine aw_aload_n hK 0 rfl dX8_goesBy_58 ?_
        refine aw_iload_n hK 1 rfl dX8_goesBy_59 ?_
        refine aw_iload_n hK 2 rfl dX8_goesBy_60 ?_
        refine aw_iload_n hK 3 rfl dX8_goesBy_61 ?_
        refine aw_iload_n hK 3 rfl dX8_goesBy_62 ?_
        refine aw_iconst hK (1) rfl dX8_goesBy_63 ?_
        refine aw_iadd hK dX8_goesBy_64 ?_
        refine aw_iload hK 6 rfl dX8_goesBy_65 ?_
        refine aw_iload hK 7 rfl dX8_goesBy_67 ?_
        obtain ⟨r12, m11, h10, hF⟩ := cal_some hF
        refine aw_cv hK 8 (as := [q_i x1, q_i x2, q_i x3, q_i (x3 + (1 : Int32)), q_i x6, q_i x7]) (tr_X8_goesOn h10) gX8_goesBy_X8_goesOn rfl rfl rfl (by decide) (na := 6) (by decide +kernel) rfl ⟨by decide, by decide⟩ (Nat.zero_le _) (Nat.le_of_ble_eq_true rfl) dX8_goesBy_69 ?_
        refine aw_if_ne hK 80 rfl dX8_goesBy_72 (fun hc => ?_) (fun hc => ?_)
        · have hF := if_f hF hc
          refine aw_sub [0, 1, 2, 3, 4, 6, 7] (lv' := [(0, q_r 70), (1, q_i x1), (2, q_i x2), (3, q_i x3), (4, q_i x4), (6, q_i x6), (7, q_i x7)]) rfl ?_
          exact bk_X8_goesBy_80 hK hR hrec_17 hrec_37 hF
        · have hF := if_t hF hc
          refine aw_iload hK 5 rfl dX8_goesBy_75 ?_
          refine aw_if_eq hK 84 rfl dX8_goesBy_77 (fun hc => ?_) (fun hc => ?_)
          · have hF := if_t hF hc
            refine aw_iconst hK (0) rfl dX8_goesBy_84 ?_
            refine aw_sub [0, 1, 2, 3, 4, 6, 7] (lv' := [(0, q_r 70), (1, q_i x1), (2, q_i x2), (3, q_i x3), (4, q_i x4), (6, q_i x6), (7, q_i x7)]) rfl ?_
            exact bk_X8_goesBy_85 hK hR hrec_17 hrec_37 hF
          · have hF := if_f hF hc
            refine aw_sub [0, 1, 2, 3, 4, 6, 7] (lv' := [(0, q_r 70), (1, q_i x1), (2, q_i x2), (3, q_i x3), (4, q_i x4), (6, q_i x6), (7, q_i x7)]) rfl ?_
            exact bk_X8_goesBy_80 hK hR hrec_17 hrec_37 hF
def S_X8_goesBy_17 (N : Nat) (rec_17 : Mem → Int32 → Int32 → Int32 → Int32 → Int32 → Int32 → Option (Int32 × Mem)) (m : Mem) (x1 : Int32) (x2 : Int32) (x3 : Int32) (x4 : Int32) (x5 : Int32) (x6 : Int32) : Option (Int32 × Mem) :=
  gd (inb x1 (alen 74)) <|
  if (((160 : Int32) * x1) + (m 74 (ix x1))) ≤ x6 then (
    if x5 = (0 : Int32) then (
      B_X8_goesBy_113 N m x5
    ) else (
      calv (F_X8_closes N m x1 x2 (x3 + (1 : Int32))) fun m6 =>
      B_X8_goesBy_113 N m6 x5
    )
  ) else (
    L_X8_goesBy_37 N rec_17 N m x1 x2 x3 x4 x5 x6 (0 : Int32)
  )
def L_X8_goesBy_17 (N : Nat) : Nat → Mem → Int32 → Int32 → Int32 → Int32 → Int32 → Int32 → Option (Int32 × Mem)
  | 0 => fun _ _ _ _ _ _ _ => none
  | f + 1 => S_X8_goesBy_17 N (L_X8_goesBy_17 N f)
set_option maxRecDepth 100000 in
set_option maxHeartbeats 4000000 in
theorem lp_X8_goesBy_17 {N : Nat} {K : KT} {m' : Mem} {r : Int32} (hK : KOK K cX8_goesBy 8 RX8 wsX8_goesBy 4 0 100) (hR : KRet K (some .boolean) (some r) m') : ∀ (f : Nat) {m : Mem} {x1 : Int32} {x2 : Int32} {x3 : Int32} {x4 : Int32} {x5 : Int32} {x6 : Int32}, L_X8_goesBy_17 N f m x1 x2 x3 x4 x5 x6 = some (r, m') → AW K 0 17 [(0, q_r 70), (1, q_i x1), (2, q_i x2), (3, q_i x3), (4, q_i x4), (5, q_i x5), (6, q_i x6)] [] m := by
  intro f
  induction f with
  | zero => intro m x1 x2 x3 x4 x5 x6 hF; cases hF
  | succ f hrec_17 =>
    intro m x1 x2 x3 x4 x5 x6 hF
    have hF : S_X8_goesBy_17 N (L_X8_goesBy_17 N f) m x1 x2 x3 x4 x5 x6 = some (r, m') := hF
    unfold S_X8_goesBy_17 at hF
    refine aw_iload hK 6 rfl dX8_goesBy_17 ?_
    refine aw_sipush hK (160) rfl dX8_goesBy_19 ?_
    refine aw_iload_n hK 1 rfl dX8_goesBy_22 ?_
    refine aw_imul hK dX8_goesBy_23 ?_
    refine aw_aload_n hK 0 rfl dX8_goesBy_24 ?_
    refine gf_8_5 hK rfl (74) rfl (List.mem_of_getElem? (i := 1) rfl) dX8_goesBy_25 ?_
    refine aw_iload_n hK 1 rfl dX8_goesBy_28 ?_
    obtain ⟨g4, hF⟩ := gd_some hF
    refine aw_iald hK rfl g4 dX8_goesBy_29 ?_
    refine aw_iadd hK dX8_goesBy_30 ?_
    refine aw_icmp_ge hK 99 rfl dX8_goesBy_31 (fun hc => ?_) (fun hc => ?_)
    · have hF := if_t hF hc
      refine aw_iload hK 5 rfl dX8_goesBy_99 ?_
      refine aw_if_eq hK 113 rfl dX8_goesBy_101 (fun hc => ?_) (fun hc => ?_)
      · have hF := if_t hF hc
        refine aw_sub [5] (lv' := [(5, q_i x5)]) rfl ?_
        exact bk_X8_goesBy_113 hK hR hF
      · have hF := if_f hF hc
        refine aw_aload_n hK 0 rfl dX8_goesBy_104 ?_
        refine aw_iload_n hK 1 rfl dX8_goesBy_105 ?_
        refine aw_iload_n hK 2 rfl dX8_goesBy_106 ?_
        refine aw_iload_n hK 3 rfl dX8_goesBy_107 ?_
        refine aw_iconst hK (1) rfl dX8_goesBy_108 ?_
        refine aw_iadd hK dX8_goesBy_109 ?_
        obtain ⟨m6, h5, hF⟩ := calv_some hF
        refine aw_cv hK 8 (as := [q_i x1, q_i x2, q_i (x3 + (1 : Int32))]) (tr_X8_closes h5) gX8_goesBy_X8_closes rfl rfl rfl (by decide) (na := 3) (by decide +kernel) rfl ⟨by decide, by decide⟩ (Nat.zero_le _) (Nat.le_of_ble_eq_true rfl) dX8_goesBy_110 ?_
        refine aw_sub [5] (lv' := [(5, q_i x5)]) rfl ?_
        exact bk_X8_goesBy_113 hK hR hF
    · have hF := if_f hF hc
      refine aw_iconst hK (0) rfl dX8_goesBy_34 ?_
      refine aw_istore hK [(7, q_i (0 : Int32)), (0, q_r 70), (1, q_i x1), (2, q_i x2), (3, q_i x3), (4, q_i x4), (5, q_i x5), (6, q_i x6)] (by decide) rfl dX8_goesBy_35 ?_
      refine aw_sub [1, 2, 3, 4, 5, 6, 7, 0] (lv' := [(0, q_r 70), (1, q_i x1), (2, q_i x2), (3, q_i x3), (4, q_i x4), (5, q_i x5), (6, q_i x6), (7, q_i (0 : Int32))]) rfl ?_
      exact lp_X8_goesBy_37 hK hR hrec_17 _ hF
def F_X8_goesBy (N : Nat) (m : Mem) (x1 : Int32) (x2 : Int32) (x3 : Int32) (x4 : Int32) : Option (Int32 × Mem) :=
  calv (F_X8_empties N m (x3 + (1 : Int32))) fun m2 =>
  bnd ((160 : Int32) * x1) fun y3 =>
  L_X8_goesBy_17 N N m2 x1 x2 x3 x4 (0 : Int32) y3
set_option maxRecDepth 100000 in
set_option maxHeartbeats 4000000 in
theorem tr_X8_goesBy {N : Nat} {m m' : Mem} {r : Int32} {x1 : Int32} {x2 : Int32} {x3 : Int32} {x4 : Int32} (hF : F_X8_goesBy N m x1 x2 x3 x4 = some (r, m')) : Tr yX8_goesBy wsX8_goesBy 4 100 [q_r 70, q_i x1, q_i x2, q_i x3, q_i x4] m (some r) m' := by
  refine tr_of (bytes := cX8_goesBy) (maxL := 8) (ret := (some .boolean)) (by decide) rfl (Nat.le_of_ble_eq_true rfl) (fun K hK hR => ?_)
  have hK : KOK K cX8_goesBy 8 RX8 wsX8_goesBy 4 0 100 := hK
  show AW K 0 0 [(0, q_r 70), (1, q_i x1), (2, q_i x2), (3, q_i x3), (4, q_i x4)] [] m
  unfold F_X8_goesBy at hF
  refine aw_aload_n hK 0 rfl dX8_goesBy_0 ?_
  refine aw_iload_n hK 3 rfl dX8_goesBy_1 ?_
  refine aw_iconst hK (1) rfl dX8_goesBy_2 ?_
  refine aw_iadd hK dX8_goesBy_3 ?_
  obtain ⟨m2, h1, hF⟩ := calv_some hF
  refine aw_cv hK 8 (as := [q_i (x3 + (1 : Int32))]) (tr_X8_empties h1) gX8_goesBy_X8_empties rfl rfl rfl (by decide) (na := 1) (by decide +kernel) rfl ⟨by decide, by decide⟩ (Nat.zero_le _) (Nat.le_of_ble_eq_true rfl) dX8_goesBy_4 ?_
  refine aw_iconst hK (0) rfl dX8_goesBy_7 ?_
  refine aw_istore hK [(5, q_i (0 : Int32)), (0, q_r 70), (1, q_i x1), (2, q_i x2), (3, q_i x3), (4, q_i x4)] (by decide) rfl dX8_goesBy_8 ?_
  refine aw_sipush hK (160) rfl dX8_goesBy_10 ?_
  refine aw_iload_n hK 2 rfl dX8_goesBy_13 ?_
  refine aw_imul hK dX8_goesBy_14 ?_
  obtain ⟨y3, hy3, hF⟩ := bnd_some hF
  refine aw_nm hy3 ?_
  refine aw_istore hK [(6, q_i y3), (5, q_i (0 : Int32)), (0, q_r 70), (1, q_i x1), (2, q_i x2), (3, q_i x3), (4, q_i x4)] (by decide) rfl dX8_goesBy_15 ?_
  refine aw_sub [2, 3, 4, 5, 6, 1, 0] (lv' := [(0, q_r 70), (1, q_i x1), (2, q_i x2), (3, q_i x3), (4, q_i x4), (5, q_i (0 : Int32)), (6, q_i y3)]) rfl ?_
  exact lp_X8_goesBy_17 hK hR _ hF
def B_X8_isAnswer_59 (N : Nat) (rec_5 : Mem → Int32 → Int32 → Int32 → Int32 → Option (Int32 × Mem)) (m : Mem) (x1 : Int32) (x2 : Int32) (x4 : Int32) (s0 : Int32) : Option (Int32 × Mem) :=
  bnd (x4 + (1 : Int32)) fun y7 =>
  rec_5 m x1 x2 s0 y7
set_option maxRecDepth 100000 in
set_option maxHeartbeats 4000000 in
theorem bk_X8_isAnswer_59 {N : Nat} {K : KT} {m' : Mem} {rec_5 : Mem → Int32 → Int32 → Int32 → Int32 → Option (Int32 × Mem)} {r : Int32} (hK : KOK K cX8_isAnswer 5 RX8 wsX8_isAnswer 1 0 22) (hR : KRet K (some .boolean) (some r) m') (hrec_5 : ∀ {m : Mem} {x1 : Int32} {x2 : Int32} {x3 : Int32} {x4 : Int32}, rec_5 m x1 x2 x3 x4 = some (r, m') → AW K 0 5 [(0, q_r 70), (1, q_i x1), (2, q_i x2), (3, q_i x3), (4, q_i x4)] [] m) {m : Mem} {x1 : Int32} {x2 : Int32} {x4 : Int32} {s0 : Int32} (hF : B_X8_isAnswer_59 N rec_5 m x1 x2 x4 s0 = some (r, m')) : AW K 0 59 [(0, q_r 70), (1, q_i x1), (2, q_i x2), (4, q_i x4)] [q_i s0] m := by
  unfold B_X8_isAnswer_59 at hF
  refine aw_istore_n hK [(3, q_i s0), (0, q_r 70), (1, q_i x1), (2, q_i x2), (4, q_i x4)] (by decide) rfl dX8_isAnswer_59 ?_
  obtain ⟨y7, hy7, hF⟩ := bnd_some hF
  refine aw_iinc hK (cz := 1) 4 [(4, q_i y7), (3, q_i s0), (0, q_r 70), (1, q_i x1), (2, q_i x2)] (by decide) rfl rfl hy7 rfl dX8_isAnswer_60 ?_
  refine aw_goto hK 5 rfl dX8_isAnswer_63 ?_
  refine aw_sub [2, 3, 4, 1, 0] (lv' := [(0, q_r 70), (1, q_i x1), (2, q_i x2), (3, q_i s0), (4, q_i y7)]) rfl ?_
  exact hrec_5 hF
def B_X8_isAnswer_58 (N : Nat) (rec_5 : Mem → Int32 → Int32 → Int32 → Int32 → Option (Int32 × Mem)) (m : Mem) (x1 : Int32) (x2 : Int32) (x4 : Int32) : Option (Int32 × Mem) :=
  B_X8_isAnswer_59 N rec_5 m x1 x2 x4 (0 : Int32)
set_option maxRecDepth 100000 in
set_option maxHeartbeats 4000000 in
theorem bk_X8_isAnswer_58 {N : Nat} {K : KT} {m' : Mem} {rec_5 : Mem → Int32 → Int32 → Int32 → Int32 → Option (Int32 × Mem)} {r : Int32} (hK : KOK K cX8_isAnswer 5 RX8 wsX8_isAnswer 1 0 22) (hR : KRet K (some .boolean) (some r) m') (hrec_5 : ∀ {m : Mem} {x1 : Int32} {x2 : Int32} {x3 : Int32} {x4 : Int32}, rec_5 m x1 x2 x3 x4 = some (r, m') → AW K 0 5 [(0, q_r 70), (1, q_i x1), (2, q_i x2), (3, q_i x3), (4, q_i x4)] [] m) {m : Mem} {x1 : Int32} {x2 : Int32} {x4 : Int32} (hF : B_X8_isAnswer_58 N rec_5 m x1 x2 x4 = some (r, m')) : AW K 0 58 [(0, q_r 70), (1, q_i x1), (2, q_i x2), (4, q_i x4)] [] m := by
  unfold B_X8_isAnswer_58 at hF
  refine aw_iconst hK (0) rfl dX8_isAnswer_58 ?_
  refine aw_sub [0, 1, 2, 3] (lv' := [(0, q_r 70), (1, q_i x1), (2, q_i x2), (4, q_i x4)]) rfl ?_
  exact bk_X8_isAnswer_59 hK hR hrec_5 hF
def B_X8_isAnswer_54 (N : Nat) (rec_5 : Mem → Int32 → Int32 → Int32 → Int32 → Option (Int32 × Mem)) (m : Mem) (x1 : Int32) (x2 : Int32) (x4 : Int32) : Option (Int32 × Mem) :=
  B_X8_isAnswer_59 N rec_5 m x1 x2 x4 (1 : Int32)
set_option maxRecDepth 100000 in
set_option maxHeartbeats 4000000 in
theorem bk_X8_isAnswer_54 {N : Nat} {K : KT} {m' : Mem} {rec_5 : Mem → Int32 → Int32 → Int32 → Int32 → Option (Int32 × Mem)} {r : Int32} (hK : KOK K cX8_isAnswer 5 RX8 wsX8_isAnswer 1 0 22) (hR : KRet K (some .boolean) (some r) m') (hrec_5 : ∀ {m : Mem} {x1 : Int32} {x2 : Int32} {x3 : Int32} {x4 : Int32}, rec_5 m x1 x2 x3 x4 = some (r, m') → AW K 0 5 [(0, q_r 70), (1, q_i x1), (2, q_i x2), (3, q_i x3), (4, q_i x4)] [] m) {m : Mem} {x1 : Int32} {x2 : Int32} {x4 : Int32} (hF : B_X8_isAnswer_54 N rec_5 m x1 x2 x4 = some (r, m')) : AW K 0 54 [(0, q_r 70), (1, q_i x1), (2, q_i x2), (4, q_i x4)] [] m := by
  unfold B_X8_isAnswer_54 at hF
  refine aw_iconst hK (1) rfl dX8_isAnswer_54 ?_
  refine aw_goto hK 59 rfl dX8_isAnswer_55 ?_
  refine aw_sub [0, 1, 2, 3] (lv' := [(0, q_r 70), (1, q_i x1), (2, q_i x2), (4, q_i x4)]) rfl ?_
  exact bk_X8_isAnswer_59 hK hR hrec_5 hF
def S_X8_isAnswer_5 (N : Nat) (rec_5 : Mem → Int32 → Int32 → Int32 → Int32 → Option (Int32 × Mem)) (m : Mem) (x1 : Int32) (x2 : Int32) (x3 : Int32) (x4 : Int32) : Option (Int32 × Mem) :=
  gd (inb x1 (alen 72)) <|
  if (m 72 (ix x1)) ≤ x4 then (
    gd (isb x3) <|
    some (x3, m)
  ) else (
    if x3 = (0 : Int32) then (
      gd (inb ((((288 : Int32) * x2) + ((32 : Int32) * (m 70 2))) + x4) (alen 102)) <|
      if (m 102 (ix ((((288 : Int32) * x2) + ((32 : Int32) * (m 70 2))) + x4))) = (0 : Int32) then (
        B_X8_isAnswer_58 N rec_5 m x1 x2 x4
      ) else (
        cal (F_X8_isEndOf N m x1 x4) fun r6 m5 =>
        if r6 = (0 : Int32) then (
          B_X8_isAnswer_58 N rec_5 m5 x1 x2 x4
        ) else (
          B_X8_isAnswer_54 N rec_5 m5 x1 x2 x4
        )
      )
    ) else (
      B_X8_isAnswer_54 N rec_5 m x1 x2 x4
    )
  )
def L_X8_isAnswer_5 (N : Nat) : Nat → Mem → Int32 → Int32 → Int32 → Int32 → Option (Int32 × Mem)
  | 0 => fun _ _ _ _ _ => none
  | f + 1 => S_X8_isAnswer_5 N (L_X8_isAnswer_5 N f)
set_option maxRecDepth 100000 in
set_option maxHeartbeats 4000000 in
theorem lp_X8_isAnswer_5 {N : Nat} {K : KT} {m' : Mem} {r : Int32} (hK : KOK K cX8_isAnswer 5 RX8 wsX8_isAnswer 1 0 22) (hR : KRet K (some .boolean) (some r) m') : ∀ (f : Nat) {m : Mem} {x1 : Int32} {x2 : Int32} {x3 : Int32} {x4 : Int32}, L_X8_isAnswer_5 N f m x1 x2 x3 x4 = some (r, m') → AW K 0 5 [(0, q_r 70), (1, q_i x1), (2, q_i x2), (3, q_i x3), (4, q_i x4)] [] m := by
  intro f
  induction f with
  | zero => intro m x1 x2 x3 x4 hF; cases hF
  | succ f hrec_5 =>
    intro m x1 x2 x3 x4 hF
    have hF : S_X8_isAnswer_5 N (L_X8_isAnswer_5 N f) m x1 x2 x3 x4 = some (r, m') := hF
    unfold S_X8_isAnswer_5 at hF
    refine aw_iload hK 4 rfl dX8_isAnswer_5 ?_
    refine aw_aload_n hK 0 rfl dX8_isAnswer_7 ?_
    refine gf_8_3 hK rfl (72) rfl (List.mem_of_getElem? (i := 1) rfl) dX8_isAnswer_8 ?_
    refine aw_iload_n hK 1 rfl dX8_isAnswer_11 ?_
    obtain ⟨g1, hF⟩ := gd_some hF
    refine aw_iald hK rfl g1 dX8_isAnswer_12 ?_
    refine aw_icmp_ge hK 66 rfl dX8_isAnswer_13 (fun hc => ?_) (fun hc => ?_)
    · have hF := if_t hF hc
      refine aw_iload_n hK 3 rfl dX8_isAnswer_66 ?_
      obtain ⟨g2, hF⟩ := gd_some hF
      obtain ⟨rfl, rfl⟩ := so_inj hF
      exact aw_iret hK hR (isb_narrow g2) dX8_isAnswer_67
    · have hF := if_f hF hc
      refine aw_iload_n hK 3 rfl dX8_isAnswer_16 ?_
      refine aw_if_ne hK 54 rfl dX8_isAnswer_17 (fun hc => ?_) (fun hc => ?_)
      · have hF := if_f hF hc
        refine aw_sub [0, 1, 2, 4] (lv' := [(0, q_r 70), (1, q_i x1), (2, q_i x2), (4, q_i x4)]) rfl ?_
        exact bk_X8_isAnswer_54 hK hR hrec_5 hF
      · have hF := if_t hF hc
        refine aw_aload_n hK 0 rfl dX8_isAnswer_20 ?_
        refine gf_8_39 hK rfl (102) rfl (List.mem_of_getElem? (i := 2) rfl) dX8_isAnswer_21 ?_
        refine aw_sipush hK (288) rfl dX8_isAnswer_24 ?_
        refine aw_iload_n hK 2 rfl dX8_isAnswer_27 ?_
        refine aw_imul hK dX8_isAnswer_28 ?_
        refine aw_bipush hK (32) rfl dX8_isAnswer_29 ?_
        refine aw_aload_n hK 0 rfl dX8_isAnswer_31 ?_
        refine gf_8_2 hK rfl (List.mem_of_getElem? (i := 3) rfl) dX8_isAnswer_32 ?_
        refine aw_imul hK dX8_isAnswer_35 ?_
        refine aw_iadd hK dX8_isAnswer_36 ?_
        refine aw_iload hK 4 rfl dX8_isAnswer_37 ?_
        refine aw_iadd hK dX8_isAnswer_39 ?_
        obtain ⟨g3, hF⟩ := gd_some hF
        refine aw_zald hK rfl g3 dX8_isAnswer_40 ?_
        refine aw_if_eq hK 58 rfl dX8_isAnswer_41 (fun hc => ?_) (fun hc => ?_)
        · have hF := if_t hF hc
          refine aw_sub [0, 1, 2, 4] (lv' := [(0, q_r 70), (1, q_i x1), (2, q_i x2), (4, q_i x4)]) rfl ?_
          exact bk_X8_isAnswer_58 hK hR hrec_5 hF
        · have hF := if_f hF hc
          refine aw_aload_n hK 0 rfl dX8_isAnswer_44 ?_
          refine aw_iload_n hK 1 rfl dX8_isAnswer_45 ?_
          refine aw_iload hK 4 rfl dX8_isAnswer_46 ?_
          obtain ⟨r6, m5, h4, hF⟩ := cal_some hF
          refine aw_cv hK 8 (as := [q_i x1, q_i x4]) (tr_X8_isEndOf h4) gX8_isAnswer_X8_isEndOf rfl rfl rfl (by decide) (na := 2) (by decide +kernel) rfl ⟨by decide, by decide⟩ (Nat.zero_le _) (Nat.le_of_ble_eq_true rfl) dX8_isAnswer_48 ?_
          refine aw_if_eq hK 58 rfl dX8_isAnswer_51 (fun hc => ?_) (fun hc => ?_)
          · have hF := if_t hF hc
            refine aw_sub [0, 1, 2, 4] (lv' := [(0, q_r 70), (1, q_i x1), (2, q_i x2), (4, q_i x4)]) rfl ?_
            exact bk_X8_isAnswer_58 hK hR hrec_5 hF
          · have hF := if_f hF hc
            refine aw_sub [0, 1, 2, 4] (lv' := [(0, q_r 70), (1, q_i x1), (2, q_i x2), (4, q_i x4)]) rfl ?_
            exact bk_X8_isAnswer_54 hK hR hrec_5 hF
def F_X8_isAnswer (N : Nat) (m : Mem) (x1 : Int32) (x2 : Int32) : Option (Int32 × Mem) :=
  L_X8_isAnswer_5 N N m x1 x2 (0 : Int32) (0 : Int32)
set_option maxRecDepth 100000 in
set_option maxHeartbeats 4000000 in
theorem tr_X8_isAnswer {N : Nat} {m m' : Mem} {r : Int32} {x1 : Int32} {x2 : Int32} (hF : F_X8_isAnswer N m x1 x2 = some (r, m')) : Tr yX8_isAnswer wsX8_isAnswer 1 22 [q_r 70, q_i x1, q_i x2] m (some r) m' := by
  refine tr_of (bytes := cX8_isAnswer) (maxL := 5) (ret := (some .boolean)) (by decide) rfl (Nat.le_of_ble_eq_true rfl) (fun K hK hR => ?_)
  have hK : KOK K cX8_isAnswer 5 RX8 wsX8_isAnswer 1 0 22 := hK
  show AW K 0 0 [(0, q_r 70), (1, q_i x1), (2, q_i x2)] [] m
  unfold F_X8_isAnswer at hF
  refine aw_iconst hK (0) rfl dX8_isAnswer_0 ?_
  refine aw_istore_n hK [(3, q_i (0 : Int32)), (0, q_r 70), (1, q_i x1), (2, q_i x2)] (by decide) rfl dX8_isAnswer_1 ?_
  refine aw_iconst hK (0) rfl dX8_isAnswer_2 ?_
  refine aw_istore hK [(4, q_i (0 : Int32)), (3, q_i (0 : Int32)), (0, q_r 70), (1, q_i x1), (2, q_i x2)] (by decide) rfl dX8_isAnswer_3 ?_
  refine aw_sub [2, 3, 4, 1, 0] (lv' := [(0, q_r 70), (1, q_i x1), (2, q_i x2), (3, q_i (0 : Int32)), (4, q_i (0 : Int32))]) rfl ?_
  exact lp_X8_isAnswer_5 hK hR _ hF
def B_X8_answersTo_171 (N : Nat) (m : Mem) (x4 : Int32) (x5 : Int32) : Option (Int32 × Mem) :=
  bnd (mup m 70 42 x4) fun m34 =>
  some (x5, m34)
set_option maxRecDepth 100000 in
set_option maxHeartbeats 4000000 in
theorem bk_X8_answersTo_171 {N : Nat} {K : KT} {m' : Mem} {r : Int32} (hK : KOK K cX8_answersTo 6 RX8 wsX8_answersTo 5 0 127) (hR : KRet K (some .int) (some r) m') {m : Mem} {x4 : Int32} {x5 : Int32} (hF : B_X8_answersTo_171 N m x4 x5 = some (r, m')) : AW K 0 171 [(0, q_r 70), (4, q_i x4), (5, q_i x5)] [] m := by
  unfold B_X8_answersTo_171 at hF
  refine aw_aload_n hK 0 rfl dX8_answersTo_171 ?_
  refine aw_iload hK 1 rfl dX8_answersTo_172 ?_
  refine pf_8_42 hK rfl (List.mem_of_getElem? (i := 6) rfl) dX8_answersTo_174 ?_
  obtain ⟨m34, hm34, hF⟩ := bnd_some hF
  refine aw_mm hm34 ?_
  refine aw_iload hK 2 rfl dX8_answersTo_177 ?_
  obtain ⟨rfl, rfl⟩ := so_inj hF
  exact aw_iret hK hR rfl dX8_answersTo_179
def B_X8_answersTo_165 (N : Nat) (rec_65 : Mem → Int32 → Int32 → Int32 → Int32 → Int32 → Option (Int32 × Mem)) (m : Mem) (x1 : Int32) (x2 : Int32) (x3 : Int32) (x4 : Int32) (s0 : Int32) (s1 : Int32) : Option (Int32 × Mem) :=
  bnd (s1 + s0) fun y33 =>
  rec_65 m x1 x2 x3 x4 y33
set_option maxRecDepth 100000 in
set_option maxHeartbeats 4000000 in
theorem bk_X8_answersTo_165 {N : Nat} {K : KT} {m' : Mem} {rec_65 : Mem → Int32 → Int32 → Int32 → Int32 → Int32 → Option (Int32 × Mem)} {r : Int32} (hK : KOK K cX8_answersTo 6 RX8 wsX8_answersTo 5 0 127) (hR : KRet K (some .int) (some r) m') (hrec_65 : ∀ {m : Mem} {x1 : Int32} {x2 : Int32} {x3 : Int32} {x4 : Int32} {x5 : Int32}, rec_65 m x1 x2 x3 x4 x5 = some (r, m') → AW K 0 65 [(0, q_r 70), (1, q_i x1), (2, q_i x2), (3, q_i x3), (4, q_i x4), (5, q_i x5)] [] m) {m : Mem} {x1 : Int32} {x2 : Int32} {x3 : Int32} {x4 : Int32} {s0 : Int32} {s1 : Int32} (hF : B_X8_answersTo_165 N rec_65 m x1 x2 x3 x4 s0 s1 = some (r, m')) : AW K 0 165 [(0, q_r 70), (1, q_i x1), (2, q_i x2), (3, q_i x3), (4, q_i x4)] [q_i s0, q_i s1] m := by
  unfold B_X8_answersTo_165 at hF
  refine aw_iadd hK dX8_answersTo_165 ?_
  obtain ⟨y33, hy33, hF⟩ := bnd_some hF
  refine aw_nm hy33 ?_
  refine aw_istore hK [(5, q_i y33), (0, q_r 70), (1, q_i x1), (2, q_i x2), (3, q_i x3), (4, q_i x4)] (by decide) rfl dX8_answersTo_166 ?_
  refine aw_goto hK 65 rfl dX8_answersTo_168 ?_
  refine aw_sub [1, 2, 3, 4, 5, 0] (lv' := [(0, q_r 70), (1, q_i x1), (2, q_i x2), (3, q_i x3), (4, q_i x4), (5, q_i y33)]) rfl ?_
  exact hrec_65 hF
def S_X8_answersTo_65 (N : Nat) (rec_65 : Mem → Int32 → Int32 → Int32 → Int32 → Int32 → Option (Int32 × Mem)) (m : Mem) (x1 : Int32) (x2 : Int32) (x3 : Int32) (x4 : Int32) (x5 : Int32) : Option (Int32 × Mem) :=
  if x3 < x5 then (
    B_X8_answersTo_171 N m x4 x5
  ) else (
    if x4 < (0 : Int32) then (
      B_X8_answersTo_171 N m x4 x5
    ) else (
      gd (inb x4 (alen 103)) <|
      gd (inb x4 (alen 103)) <|
      bnd (mup m 103 (ix x4) ((m 103 (ix x4)) + (1 : Int32))) fun m17 =>
      gd (inb x4 (alen 103)) <|
      if (m17 103 (ix x4)) = (8 : Int32) then (
        bnd (x4 + (-1 : Int32)) fun y32 =>
        rec_65 m17 x1 x2 x3 y32 x5
      ) else (
        gd (inb x4 (alen 103)) <|
        cal (F_X8_goesBy N m17 x1 x2 x4 (m17 103 (ix x4))) fun r22 m21 =>
        if r22 = (0 : Int32) then (
          rec_65 m21 x1 x2 x3 x4 x5
        ) else (
          gd (inb x4 (alen 103)) <|
          gd (inb x4 (alen 104)) <|
          bnd (mup m21 104 (ix x4) (m21 103 (ix x4))) fun m25 =>
          bnd (x4 + (1 : Int32)) fun y26 =>
          gd (inb y26 (alen 103)) <|
          bnd (mup m25 103 (ix y26) (-1 : Int32)) fun m28 =>
          cal (F_X8_isAnswer N m28 x1 y26) fun r31 m30 =>
          if r31 = (0 : Int32) then (
            B_X8_answersTo_165 N rec_65 m30 x1 x2 x3 y26 (0 : Int32) x5
          ) else (
            B_X8_answersTo_165 N rec_65 m30 x1 x2 x3 y26 (1 : Int32) x5
          )
        )
      )
    )
  )
def L_X8_answersTo_65 (N : Nat) : Nat → Mem → Int32 → Int32 → Int32 → Int32 → Int32 → Option (Int32 × Mem)
  | 0 => fun _ _ _ _ _ _ => none
  | f + 1 => S_X8_answersTo_65 N (L_X8_answersTo_65 N f)
set_option maxRecDepth 100000 in
set_option maxHeartbeats 4000000 in
theorem lp_X8_answersTo_65 {N : Nat} {K : KT} {m' : Mem} {r : Int32} (hK : KOK K cX8_answersTo 6 RX8 wsX8_answersTo 5 0 127) (hR : KRet K (some .int) (some r) m') : ∀ (f : Nat) {m : Mem} {x1 : Int32} {x2 : Int32} {x3 : Int32} {x4 : Int32} {x5 : Int32}, L_X8_answersTo_65 N f m x1 x2 x3 x4 x5 = some (r, m') → AW K 0 65 [(0, q_r 70), (1, q_i x1), (2, q_i x2), (3, q_i x3), (4, q_i x4), (5, q_i x5)] [] m := by
  intro f
  induction f with
  | zero => intro m x1 x2 x3 x4 x5 hF; cases hF
  | succ f hrec_65 =>
    intro m x1 x2 x3 x4 x5 hF
    have hF : S_X8_answersTo_65 N (L_X8_answersTo_65 N f) m x1 x2 x3 x4 x5 = some (r, m') := hF
    unfold S_X8_answersTo_65 at hF
    refine aw_iload hK 5 rfl dX8_answersTo_65 ?_
    refine aw_iload_n hK 3 rfl dX8_answersTo_67 ?_
    refine aw_icmp_gt hK 171 rfl dX8_answersTo_68 (fun hc => ?_) (fun hc => ?_)
    · have hF := if_t hF hc
      refine aw_sub [0, 4, 5] (lv' := [(0, q_r 70), (4, q_i x4), (5, q_i x5)]) rfl ?_
      exact bk_X8_answersTo_171 hK hR hF
    · have hF := if_f hF hc
      refine aw_iload hK 4 rfl dX8_answersTo_71 ?_
      refine aw_if_lt hK 171 rfl dX8_answersTo_73 (fun hc => ?_) (fun hc => ?_)
      · have hF := if_t hF hc
        refine aw_sub [0, 4, 5] (lv' := [(0, q_r 70), (4, q_i x4), (5, q_i x5)]) rfl ?_
        exact bk_X8_answersTo_171 hK hR hF
      · have hF := if_f hF hc
        refine aw_aload_n hK 0 rfl dX8_answersTo_76 ?_
        refine gf_8_40 hK rfl (103) rfl (List.mem_of_getElem? (i := 4) rfl) dX8_answersTo_77 ?_
        refine aw_iload hK 4 rfl dX8_answersTo_80 ?_
        refine aw_dup2 hK rfl rfl dX8_answersTo_82 ?_
        obtain ⟨g15, hF⟩ := gd_some hF
        refine aw_iald hK rfl g15 dX8_answersTo_83 ?_
        refine aw_iconst hK (1) rfl dX8_answersTo_84 ?_
        refine aw_iadd hK dX8_answersTo_85 ?_
        obtain ⟨g16, hF⟩ := gd_some hF
        refine aw_iast hK rfl g16 dX8_answersTo_86 ?_
        obtain ⟨m17, hm17, hF⟩ := bnd_some hF
        refine aw_mm hm17 ?_
        refine aw_aload_n hK 0 rfl dX8_answersTo_87 ?_
        refine gf_8_40 hK rfl (103) rfl (List.mem_of_getElem? (i := 4) rfl) dX8_answersTo_88 ?_
        refine aw_iload hK 4 rfl dX8_answersTo_91 ?_
        obtain ⟨g18, hF⟩ := gd_some hF
        refine aw_iald hK rfl g18 dX8_answersTo_93 ?_
        refine aw_bipush hK (8) rfl dX8_answersTo_94 ?_
        refine aw_icmp_ne hK 105 rfl dX8_answersTo_96 (fun hc => ?_) (fun hc => ?_)
        · have hF := if_f hF hc
          refine aw_aload_n hK 0 rfl dX8_answersTo_105 ?_
          refine aw_iload_n hK 1 rfl dX8_answersTo_106 ?_
          refine aw_iload_n hK 2 rfl dX8_answersTo_107 ?_
          refine aw_iload hK 4 rfl dX8_answersTo_108 ?_
          refine aw_aload_n hK 0 rfl dX8_answersTo_110 ?_
          refine gf_8_40 hK rfl (103) rfl (List.mem_of_getElem? (i := 4) rfl) dX8_answersTo_111 ?_
          refine aw_iload hK 4 rfl dX8_answersTo_114 ?_
          obtain ⟨g19, hF⟩ := gd_some hF
          refine aw_iald hK rfl g19 dX8_answersTo_116 ?_
          obtain ⟨r22, m21, h20, hF⟩ := cal_some hF
          refine aw_cv hK 8 (as := [q_i x1, q_i x2, q_i x4, q_i (m17 103 (ix x4))]) (tr_X8_goesBy h20) gX8_answersTo_X8_goesBy rfl rfl rfl (by decide) (na := 4) (by decide +kernel) rfl ⟨by decide, by decide⟩ (Nat.zero_le _) (Nat.le_of_ble_eq_true rfl) dX8_answersTo_117 ?_
          refine aw_if_eq hK 65 rfl dX8_answersTo_120 (fun hc => ?_) (fun hc => ?_)
          · have hF := if_t hF hc
            refine aw_sub [0, 1, 2, 3, 4, 5] (lv' := [(0, q_r 70), (1, q_i x1), (2, q_i x2), (3, q_i x3), (4, q_i x4), (5, q_i x5)]) rfl ?_
            exact hrec_65 hF
          · have hF := if_f hF hc
            refine aw_aload_n hK 0 rfl dX8_answersTo_123 ?_
            refine gf_8_41 hK rfl (104) rfl (List.mem_of_getElem? (i := 5) rfl) dX8_answersTo_124 ?_
            refine aw_iload hK 4 rfl dX8_answersTo_127 ?_
            refine aw_aload_n hK 0 rfl dX8_answersTo_129 ?_
            refine gf_8_40 hK rfl (103) rfl (List.mem_of_getElem? (i := 4) rfl) dX8_answersTo_130 ?_
            refine aw_iload hK 4 rfl dX8_answersTo_133 ?_
            obtain ⟨g23, hF⟩ := gd_some hF
            refine aw_iald hK rfl g23 dX8_answersTo_135 ?_
            obtain ⟨g24, hF⟩ := gd_some hF
            refine aw_iast hK rfl g24 dX8_answersTo_136 ?_
            obtain ⟨m25, hm25, hF⟩ := bnd_some hF
            refine aw_mm hm25 ?_
            obtain ⟨y26, hy26, hF⟩ := bnd_some hF
            refine aw_iinc hK (cz := 1) 4 [(4, q_i y26), (0, q_r 70), (1, q_i x1), (2, q_i x2), (3, q_i x3), (5, q_i x5)] (by decide) rfl rfl hy26 rfl dX8_answersTo_137 ?_
            refine aw_aload_n hK 1 rfl dX8_answersTo_140 ?_
            refine gf_8_40 hK rfl (103) rfl (List.mem_of_getElem? (i := 4) rfl) dX8_answersTo_141 ?_
            refine aw_iload hK 0 rfl dX8_answersTo_144 ?_
            refine aw_iconst hK (-1) rfl dX8_answersTo_146 ?_
            obtain ⟨g27, hF⟩ := gd_some hF
            refine aw_iast hK rfl g27 dX8_answersTo_147 ?_
            obtain ⟨m28, hm28, hF⟩ := bnd_some hF
            refine aw_mm hm28 ?_
            refine aw_iload hK 5 rfl dX8_answersTo_148 ?_
            refine aw_aload_n hK 1 rfl dX8_answersTo_150 ?_
            refine aw_iload_n hK 2 rfl dX8_answersTo_151 ?_
            refine aw_iload hK 0 rfl dX8_answersTo_152 ?_
            obtain ⟨r31, m30, h29, hF⟩ := cal_some hF
            refine aw_cv hK 8 (as := [q_i x1, q_i y26]) (tr_X8_isAnswer h29) gX8_answersTo_X8_isAnswer rfl rfl rfl (by decide) (na := 2) (by decide +kernel) rfl ⟨by decide, by decide⟩ (Nat.zero_le _) (Nat.le_of_ble_eq_true rfl) dX8_answersTo_154 ?_
            refine aw_if_eq hK 164 rfl dX8_answersTo_157 (fun hc => ?_) (fun hc => ?_)
            · have hF := if_t hF hc
              refine aw_iconst hK (0) rfl dX8_answersTo_164 ?_
              refine aw_sub [1, 2, 3, 4, 0] (lv' := [(0, q_r 70), (1, q_i x1), (2, q_i x2), (3, q_i x3), (4, q_i y26)]) rfl ?_
              exact bk_X8_answersTo_165 hK hR hrec_65 hF
            · have hF := if_f hF hc
              refine aw_iconst hK (1) rfl dX8_answersTo_160 ?_
              refine aw_goto hK 165 rfl dX8_answersTo_161 ?_
              refine aw_sub [1, 2, 3, 4, 0] (lv' := [(0, q_r 70), (1, q_i x1), (2, q_i x2), (3, q_i x3), (4, q_i y26)]) rfl ?_
              exact bk_X8_answersTo_165 hK hR hrec_65 hF
        · have hF := if_t hF hc
          obtain ⟨y32, hy32, hF⟩ := bnd_some hF
          refine aw_iinc hK (cz := -1) 4 [(4, q_i y32), (0, q_r 70), (1, q_i x1), (2, q_i x2), (3, q_i x3), (5, q_i x5)] (by decide) rfl rfl hy32 rfl dX8_answersTo_99 ?_
          refine aw_goto hK 65 rfl dX8_answersTo_102 ?_
          refine aw_sub [1, 2, 3, 4, 0, 5] (lv' := [(0, q_r 70), (1, q_i x1), (2, q_i x2), (3, q_i x3), (4, q_i y32), (5, q_i x5)]) rfl ?_
          exact hrec_65 hF
def B_X8_answersTo_63 (N : Nat) (m : Mem) (x1 : Int32) (x2 : Int32) (x3 : Int32) (x4 : Int32) (s0 : Int32) : Option (Int32 × Mem) :=
  L_X8_answersTo_65 N N m x1 x2 x3 x4 s0
set_option maxRecDepth 100000 in
set_option maxHeartbeats 4000000 in
theorem bk_X8_answersTo_63 {N : Nat} {K : KT} {m' : Mem} {r : Int32} (hK : KOK K cX8_answersTo 6 RX8 wsX8_answersTo 5 0 127) (hR : KRet K (some .int) (some r) m') {m : Mem} {x1 : Int32} {x2 : Int32} {x3 : Int32} {x4 : Int32} {s0 : Int32} (hF : B_X8_answersTo_63 N m x1 x2 x3 x4 s0 = some (r, m')) : AW K 0 63 [(0, q_r 70), (1, q_i x1), (2, q_i x2), (3, q_i x3), (4, q_i x4)] [q_i s0] m := by
  unfold B_X8_answersTo_63 at hF
  refine aw_istore hK [(5, q_i s0), (0, q_r 70), (1, q_i x1), (2, q_i x2), (3, q_i x3), (4, q_i x4)] (by decide) rfl dX8_answersTo_63 ?_
  refine aw_sub [1, 2, 3, 4, 5, 0] (lv' := [(0, q_r 70), (1, q_i x1), (2, q_i x2), (3, q_i x3), (4, q_i x4), (5, q_i s0)]) rfl ?_
  exact lp_X8_answersTo_65 hK hR _ hF
def F_X8_answersTo (N : Nat) (m : Mem) (x1 : Int32) (x2 : Int32) (x3 : Int32) : Option (Int32 × Mem) :=
  calv (F_X8_rests N m x1 x2) fun m2 =>
  gd (inb (0 : Int32) (alen 99)) <|
  if (m2 99 (ix (0 : Int32))) = (2000000000 : Int32) then (
    some ((0 : Int32), m2)
  ) else (
    calv (F_X8_empties N m2 (0 : Int32)) fun m5 =>
    gd (inb (0 : Int32) (alen 102)) <|
    bnd (mup m5 102 (ix (0 : Int32)) (1 : Int32)) fun m7 =>
    calv (F_X8_closes N m7 x1 x2 (0 : Int32)) fun m9 =>
    gd (inb (0 : Int32) (alen 103)) <|
    bnd (mup m9 103 (ix (0 : Int32)) (-1 : Int32)) fun m11 =>
    cal (F_X8_isAnswer N m11 x1 (0 : Int32)) fun r14 m13 =>
    if r14 = (0 : Int32) then (
      B_X8_answersTo_63 N m13 x1 x2 x3 (0 : Int32) (0 : Int32)
    ) else (
      B_X8_answersTo_63 N m13 x1 x2 x3 (0 : Int32) (1 : Int32)
    )
  )
set_option maxRecDepth 100000 in
set_option maxHeartbeats 4000000 in
theorem tr_X8_answersTo {N : Nat} {m m' : Mem} {r : Int32} {x1 : Int32} {x2 : Int32} {x3 : Int32} (hF : F_X8_answersTo N m x1 x2 x3 = some (r, m')) : Tr yX8_answersTo wsX8_answersTo 5 127 [q_r 70, q_i x1, q_i x2, q_i x3] m (some r) m' := by
  refine tr_of (bytes := cX8_answersTo) (maxL := 6) (ret := (some .int)) (by decide) rfl (Nat.le_of_ble_eq_true rfl) (fun K hK hR => ?_)
  have hK : KOK K cX8_answersTo 6 RX8 wsX8_answersTo 5 0 127 := hK
  show AW K 0 0 [(0, q_r 70), (1, q_i x1), (2, q_i x2), (3, q_i x3)] [] m
  unfold F_X8_answersTo at hF
  refine aw_aload_n hK 0 rfl dX8_answersTo_0 ?_
  refine aw_iload_n hK 1 rfl dX8_answersTo_1 ?_
  refine aw_iload_n hK 2 rfl dX8_answersTo_2 ?_
  obtain ⟨m2, h1, hF⟩ := calv_some hF
  refine aw_cv hK 8 (as := [q_i x1, q_i x2]) (tr_X8_rests h1) gX8_answersTo_X8_rests rfl rfl rfl (by decide) (na := 2) (by decide +kernel) rfl ⟨by decide, by decide⟩ (Nat.zero_le _) (Nat.le_of_ble_eq_true rfl) dX8_answersTo_3 ?_
  refine aw_aload_n hK 0 rfl dX8_answersTo_6 ?_
  refine gf_8_36 hK rfl (99) rfl (List.mem_of_getElem? (i := 1) rfl) dX8_answersTo_7 ?_
  refine aw_iconst hK (0) rfl dX8_answersTo_10 ?_
  obtain ⟨g3, hF⟩ := gd_some hF
  refine aw_iald hK rfl g3 dX8_answersTo_11 ?_
  refine aw_ldc_w hK (2000000000) (List.mem_of_getElem? (i := 2) rfl) dX8_answersTo_12 ?_
  refine aw_icmp_ne hK 20 rfl dX8_answersTo_15 (fun hc => ?_) (fun hc => ?_)
  · have hF := if_f hF hc
    refine aw_aload_n hK 0 rfl dX8_answersTo_20 ?_
    refine aw_iconst hK (0) rfl dX8_answersTo_21 ?_
    obtain ⟨m5, h4, hF⟩ := calv_some hF
    refine aw_cv hK 8 (as := [q_i (0 : Int32)]) (tr_X8_empties h4) gX8_answersTo_X8_empties rfl rfl rfl (by decide) (na := 1) (by decide +kernel) rfl ⟨by decide, by decide⟩ (Nat.zero_le _) (Nat.le_of_ble_eq_true rfl) dX8_answersTo_22 ?_
    refine aw_aload_n hK 0 rfl dX8_answersTo_25 ?_
    refine gf_8_39 hK rfl (102) rfl (List.mem_of_getElem? (i := 3) rfl) dX8_answersTo_26 ?_
    refine aw_iconst hK (0) rfl dX8_answersTo_29 ?_
    refine aw_iconst hK (1) rfl dX8_answersTo_30 ?_
    obtain ⟨g6, hF⟩ := gd_some hF
    refine aw_zast hK rfl g6 rfl dX8_answersTo_31 ?_
    obtain ⟨m7, hm7, hF⟩ := bnd_some hF
    refine aw_mm hm7 ?_
    refine aw_aload_n hK 0 rfl dX8_answersTo_32 ?_
    refine aw_iload_n hK 1 rfl dX8_answersTo_33 ?_
    refine aw_iload_n hK 2 rfl dX8_answersTo_34 ?_
    refine aw_iconst hK (0) rfl dX8_answersTo_35 ?_
    obtain ⟨m9, h8, hF⟩ := calv_some hF
    refine aw_cv hK 8 (as := [q_i x1, q_i x2, q_i (0 : Int32)]) (tr_X8_closes h8) gX8_answersTo_X8_closes rfl rfl rfl (by decide) (na := 3) (by decide +kernel) rfl ⟨by decide, by decide⟩ (Nat.zero_le _) (Nat.le_of_ble_eq_true rfl) dX8_answersTo_36 ?_
    refine aw_iconst hK (0) rfl dX8_answersTo_39 ?_
    refine aw_istore hK [(4, q_i (0 : Int32)), (0, q_r 70), (1, q_i x1), (2, q_i x2), (3, q_i x3)] (by decide) rfl dX8_answersTo_40 ?_
    refine aw_aload_n hK 1 rfl dX8_answersTo_42 ?_
    refine gf_8_40 hK rfl (103) rfl (List.mem_of_getElem? (i := 4) rfl) dX8_answersTo_43 ?_
    refine aw_iconst hK (0) rfl dX8_answersTo_46 ?_
    refine aw_iconst hK (-1) rfl dX8_answersTo_47 ?_
    obtain ⟨g10, hF⟩ := gd_some hF
    refine aw_iast hK rfl g10 dX8_answersTo_48 ?_
    obtain ⟨m11, hm11, hF⟩ := bnd_some hF
    refine aw_mm hm11 ?_
    refine aw_aload_n hK 1 rfl dX8_answersTo_49 ?_
    refine aw_iload_n hK 2 rfl dX8_answersTo_50 ?_
    refine aw_iconst hK (0) rfl dX8_answersTo_51 ?_
    obtain ⟨r14, m13, h12, hF⟩ := cal_some hF
    refine aw_cv hK 8 (as := [q_i x1, q_i (0 : Int32)]) (tr_X8_isAnswer h12) gX8_answersTo_X8_isAnswer rfl rfl rfl (by decide) (na := 2) (by decide +kernel) rfl ⟨by decide, by decide⟩ (Nat.zero_le _) (Nat.le_of_ble_eq_true rfl) dX8_answersTo_52 ?_
    refine aw_if_eq hK 62 rfl dX8_answersTo_55 (fun hc => ?_) (fun hc => ?_)
    · have hF := if_t hF hc
      refine aw_iconst hK (0) rfl dX8_answersTo_62 ?_
      refine aw_sub [1, 2, 3, 4, 0] (lv' := [(0, q_r 70), (1, q_i x1), (2, q_i x2), (3, q_i x3), (4, q_i (0 : Int32))]) rfl ?_
      exact bk_X8_answersTo_63 hK hR hF
    · have hF := if_f hF hc
      refine aw_iconst hK (1) rfl dX8_answersTo_58 ?_
      refine aw_goto hK 63 rfl dX8_answersTo_59 ?_
      refine aw_sub [1, 2, 3, 4, 0] (lv' := [(0, q_r 70), (1, q_i x1), (2, q_i x2), (3, q_i x3), (4, q_i (0 : Int32))]) rfl ?_
      exact bk_X8_answersTo_63 hK hR hF
  · have hF := if_t hF hc
    refine aw_iconst hK (0) rfl dX8_answersTo_18 ?_
    obtain ⟨rfl, rfl⟩ := so_inj hF
    exact aw_iret hK hR rfl dX8_answersTo_19
