def B_L_asks_225 (N : Nat) (m : Mem) (s0 : Int32) : Option ((Int32 ⊕ Nat) × Mem) :=
  some (.inl s0, m)
set_option maxRecDepth 100000 in
set_option maxHeartbeats 4000000 in
theorem bk_L_asks_225 {N : Nat} {K : KT} {m' : Mem} {res : Int32 ⊕ Nat} (hK : KOK K cL_asks 7 RL wsL_asks 8 7 162) (hR : KX K (some .int) (xo true res) m' 7) {m : Mem} {s0 : Int32} (hF : B_L_asks_225 N m s0 = some (res, m')) : AW K 7 225 [] [q_i s0] m := by
  unfold B_L_asks_225 at hF
  obtain ⟨rfl, rfl⟩ := so_inj hF
  exact aw_iretX hK hR rfl (Nat.le_of_ble_eq_true rfl) dL_asks_225
def B_L_asks_197 (N : Nat) (m : Mem) (s0 : Int32) (s1 : Int32) (s2 : Int32) (s3 : Int32) (s4 : Int32) : Option ((Int32 ⊕ Nat) × Mem) :=
  calx (F_X7_rule N m s4 s3 s2 s1 s0) fun r55 m54 =>
  B_L_asks_225 N m54 r55
set_option maxRecDepth 100000 in
set_option maxHeartbeats 4000000 in
theorem bk_L_asks_197 {N : Nat} {K : KT} {m' : Mem} {res : Int32 ⊕ Nat} (hK : KOK K cL_asks 7 RL wsL_asks 8 7 162) (hR : KX K (some .int) (xo true res) m' 7) {m : Mem} {s0 : Int32} {s1 : Int32} {s2 : Int32} {s3 : Int32} {s4 : Int32} (hF : B_L_asks_197 N m s0 s1 s2 s3 s4 = some (res, m')) : AW K 5 197 [] [q_i s0, q_i s1, q_i s2, q_i s3, q_i s4, q_r 0] m := by
  unfold B_L_asks_197 at hF
  rcases calx_some hF with ⟨r55, m54, h53, hF⟩ | ⟨x_56, m54, h53, hF⟩
  · refine aw_cvXr hK (kxb hR) 7 (as := [q_i s4, q_i s3, q_i s2, q_i s1, q_i s0]) (trX_X7_rule h53) gL_asks_X7_rule rfl rfl rfl (by decide) (na := 5) (by decide +kernel) rfl ⟨by decide, by decide⟩ (Nat.le_of_ble_eq_true rfl) (Nat.le_of_ble_eq_true rfl) dL_asks_197 ?_
    refine aw_goto hK 225 rfl dL_asks_200 ?_
    refine aw_sub [] (lv' := []) rfl ?_
    exact bk_L_asks_225 hK hR hF
  · obtain ⟨rfl, rfl⟩ := Prod.mk.inj hF
    exact aw_cvXx hK hR 7 (as := [q_i s4, q_i s3, q_i s2, q_i s1, q_i s0]) (trX_X7_rule h53) gL_asks_X7_rule rfl rfl rfl (by decide) (na := 5) (by decide +kernel) rfl ⟨by decide, by decide⟩ (Nat.le_of_ble_eq_true rfl) (Nat.le_of_ble_eq_true rfl) dL_asks_197
def B_L_asks_167 (N : Nat) (m : Mem) (s0 : Int32) (s1 : Int32) (s2 : Int32) : Option ((Int32 ⊕ Nat) × Mem) :=
  calx (F_X7_meet N m s2 s1 s0) fun r51 m50 =>
  B_L_asks_225 N m50 r51
set_option maxRecDepth 100000 in
set_option maxHeartbeats 4000000 in
theorem bk_L_asks_167 {N : Nat} {K : KT} {m' : Mem} {res : Int32 ⊕ Nat} (hK : KOK K cL_asks 7 RL wsL_asks 8 7 162) (hR : KX K (some .int) (xo true res) m' 7) {m : Mem} {s0 : Int32} {s1 : Int32} {s2 : Int32} (hF : B_L_asks_167 N m s0 s1 s2 = some (res, m')) : AW K 0 167 [] [q_i s0, q_i s1, q_i s2, q_r 0] m := by
  unfold B_L_asks_167 at hF
  rcases calx_some hF with ⟨r51, m50, h49, hF⟩ | ⟨x_52, m50, h49, hF⟩
  · refine aw_cvXr hK (kxb hR) 7 (as := [q_i s2, q_i s1, q_i s0]) (trX_X7_meet h49) gL_asks_X7_meet rfl rfl rfl (by decide) (na := 3) (by decide +kernel) rfl ⟨by decide, by decide⟩ (Nat.le_of_ble_eq_true rfl) (Nat.le_of_ble_eq_true rfl) dL_asks_167 ?_
    refine aw_goto hK 225 rfl dL_asks_170 ?_
    refine aw_sub [] (lv' := []) rfl ?_
    exact bk_L_asks_225 hK hR hF
  · obtain ⟨rfl, rfl⟩ := Prod.mk.inj hF
    exact aw_cvXx hK hR 7 (as := [q_i s2, q_i s1, q_i s0]) (trX_X7_meet h49) gL_asks_X7_meet rfl rfl rfl (by decide) (na := 3) (by decide +kernel) rfl ⟨by decide, by decide⟩ (Nat.le_of_ble_eq_true rfl) (Nat.le_of_ble_eq_true rfl) dL_asks_167
def B_L_asks_127 (N : Nat) (m : Mem) (s0 : Int32) (s1 : Int32) : Option ((Int32 ⊕ Nat) × Mem) :=
  calx (F_X7_side N m s1 s0) fun r47 m46 =>
  B_L_asks_225 N m46 r47
set_option maxRecDepth 100000 in
set_option maxHeartbeats 4000000 in
theorem bk_L_asks_127 {N : Nat} {K : KT} {m' : Mem} {res : Int32 ⊕ Nat} (hK : KOK K cL_asks 7 RL wsL_asks 8 7 162) (hR : KX K (some .int) (xo true res) m' 7) {m : Mem} {s0 : Int32} {s1 : Int32} (hF : B_L_asks_127 N m s0 s1 = some (res, m')) : AW K 5 127 [] [q_i s0, q_i s1, q_r 0] m := by
  unfold B_L_asks_127 at hF
  rcases calx_some hF with ⟨r47, m46, h45, hF⟩ | ⟨x_48, m46, h45, hF⟩
  · refine aw_cvXr hK (kxb hR) 7 (as := [q_i s1, q_i s0]) (trX_X7_side h45) gL_asks_X7_side rfl rfl rfl (by decide) (na := 2) (by decide +kernel) rfl ⟨by decide, by decide⟩ (Nat.le_of_ble_eq_true rfl) (Nat.le_of_ble_eq_true rfl) dL_asks_127 ?_
    refine aw_goto hK 225 rfl dL_asks_130 ?_
    refine aw_sub [] (lv' := []) rfl ?_
    exact bk_L_asks_225 hK hR hF
  · obtain ⟨rfl, rfl⟩ := Prod.mk.inj hF
    exact aw_cvXx hK hR 7 (as := [q_i s1, q_i s0]) (trX_X7_side h45) gL_asks_X7_side rfl rfl rfl (by decide) (na := 2) (by decide +kernel) rfl ⟨by decide, by decide⟩ (Nat.le_of_ble_eq_true rfl) (Nat.le_of_ble_eq_true rfl) dL_asks_127
def F_L_asks (N : Nat) (m : Mem) (x1 : Int32) (x2 : Int32) (x3 : Int32) (x4 : Int32) (x5 : Int32) (x6 : Int32) : Option ((Int32 ⊕ Nat) × Mem) :=
  if x1 = (0 : Int32) then (
    calx (F_X7_pair N m x2 x3 x4) fun r43 m42 =>
    B_L_asks_225 N m42 r43
  ) else (
    if x1 = (1 : Int32) then (
      calx (F_X7_word N m) fun r39 m38 =>
      B_L_asks_225 N m38 r39
    ) else (
      if x1 = (2 : Int32) then (
        calx (F_X7_any N m) fun r35 m34 =>
        B_L_asks_225 N m34 r35
      ) else (
        if x1 = (3 : Int32) then (
          calx (F_X7_join N m x2 x3) fun r31 m30 =>
          B_L_asks_225 N m30 r31
        ) else (
          if x1 = (4 : Int32) then (
            calx (F_X7_unite N m x2 x3) fun r27 m26 =>
            B_L_asks_225 N m26 r27
          ) else (
            if x1 = (5 : Int32) then (
              calx (F_X7_repeat N m x2) fun r23 m22 =>
              B_L_asks_225 N m22 r23
            ) else (
              if x1 = (6 : Int32) then (
                calx (F_X7_turn N m x2) fun r19 m18 =>
                B_L_asks_225 N m18 r19
              ) else (
                if x1 = (7 : Int32) then (
                  calx (F_X7_compose N m x2 x3) fun r15 m14 =>
                  B_L_asks_225 N m14 r15
                ) else (
                  if x1 = (8 : Int32) then (
                    if x3 = (1 : Int32) then (
                      B_L_asks_127 N m (1 : Int32) x2
                    ) else (
                      B_L_asks_127 N m (0 : Int32) x2
                    )
                  ) else (
                    if x1 = (9 : Int32) then (
                      calx (F_X7_least N m x2) fun r11 m10 =>
                      B_L_asks_225 N m10 r11
                    ) else (
                      if x1 = (10 : Int32) then (
                        if x4 = (1 : Int32) then (
                          B_L_asks_167 N m (1 : Int32) x3 x2
                        ) else (
                          B_L_asks_167 N m (0 : Int32) x3 x2
                        )
                      ) else (
                        if x1 = (11 : Int32) then (
                          if x6 = (1 : Int32) then (
                            B_L_asks_197 N m (1 : Int32) x5 x4 x3 x2
                          ) else (
                            B_L_asks_197 N m (0 : Int32) x5 x4 x3 x2
                          )
                        ) else (
                          if x1 = (12 : Int32) then (
                            calx (F_X7_apart N m x2 x3 x4) fun r7 m6 =>
                            B_L_asks_225 N m6 r7
                          ) else (
                            calx (F_X7_type N m x2) fun r3 m2 =>
                            B_L_asks_225 N m2 r3
                          )
                        )
                      )
                    )
                  )
                )
              )
            )
          )
        )
      )
    )
  )
set_option maxRecDepth 100000 in
set_option maxHeartbeats 4000000 in
theorem trX_L_asks {N : Nat} {m m' : Mem} {res : Int32 ⊕ Nat} {x1 : Int32} {x2 : Int32} {x3 : Int32} {x4 : Int32} {x5 : Int32} {x6 : Int32} (hF : F_L_asks N m x1 x2 x3 x4 x5 x6 = some (res, m')) : TrX yL_asks wsL_asks 8 162 7 [q_r 0, q_i x1, q_i x2, q_i x3, q_i x4, q_i x5, q_i x6] m (xo true res) m' := by
  refine trX_of (bytes := cL_asks) (maxL := 7) (ret := (some .int)) (by decide) rfl (Nat.le_of_ble_eq_true rfl) (fun K hK hR => ?_)
  have hK : KOK K cL_asks 7 RL wsL_asks 8 7 162 := hK
  show AW K 0 0 [(0, q_r 0), (1, q_i x1), (2, q_i x2), (3, q_i x3), (4, q_i x4), (5, q_i x5), (6, q_i x6)] [] m
  unfold F_L_asks at hF
  refine aw_iload_n hK 1 rfl dL_asks_0 ?_
  refine aw_if_ne hK 15 rfl dL_asks_1 (fun hc => ?_) (fun hc => ?_)
  · have hF := if_f hF hc
    refine aw_iload_n hK 1 rfl dL_asks_15 ?_
    refine aw_iconst hK (1) rfl dL_asks_16 ?_
    refine aw_icmp_ne hK 27 rfl dL_asks_17 (fun hc => ?_) (fun hc => ?_)
    · have hF := if_f hF hc
      refine aw_iload_n hK 1 rfl dL_asks_27 ?_
      refine aw_iconst hK (2) rfl dL_asks_28 ?_
      refine aw_icmp_ne hK 39 rfl dL_asks_29 (fun hc => ?_) (fun hc => ?_)
      · have hF := if_f hF hc
        refine aw_iload_n hK 1 rfl dL_asks_39 ?_
        refine aw_iconst hK (3) rfl dL_asks_40 ?_
        refine aw_icmp_ne hK 53 rfl dL_asks_41 (fun hc => ?_) (fun hc => ?_)
        · have hF := if_f hF hc
          refine aw_iload_n hK 1 rfl dL_asks_53 ?_
          refine aw_iconst hK (4) rfl dL_asks_54 ?_
          refine aw_icmp_ne hK 67 rfl dL_asks_55 (fun hc => ?_) (fun hc => ?_)
          · have hF := if_f hF hc
            refine aw_iload_n hK 1 rfl dL_asks_67 ?_
            refine aw_iconst hK (5) rfl dL_asks_68 ?_
            refine aw_icmp_ne hK 80 rfl dL_asks_69 (fun hc => ?_) (fun hc => ?_)
            · have hF := if_f hF hc
              refine aw_iload_n hK 1 rfl dL_asks_80 ?_
              refine aw_bipush hK (6) rfl dL_asks_81 ?_
              refine aw_icmp_ne hK 94 rfl dL_asks_83 (fun hc => ?_) (fun hc => ?_)
              · have hF := if_f hF hc
                refine aw_iload_n hK 1 rfl dL_asks_94 ?_
                refine aw_bipush hK (7) rfl dL_asks_95 ?_
                refine aw_icmp_ne hK 109 rfl dL_asks_97 (fun hc => ?_) (fun hc => ?_)
                · have hF := if_f hF hc
                  refine aw_iload_n hK 1 rfl dL_asks_109 ?_
                  refine aw_bipush hK (8) rfl dL_asks_110 ?_
                  refine aw_icmp_ne hK 133 rfl dL_asks_112 (fun hc => ?_) (fun hc => ?_)
                  · have hF := if_f hF hc
                    refine aw_iload_n hK 1 rfl dL_asks_133 ?_
                    refine aw_bipush hK (9) rfl dL_asks_134 ?_
                    refine aw_icmp_ne hK 147 rfl dL_asks_136 (fun hc => ?_) (fun hc => ?_)
                    · have hF := if_f hF hc
                      refine aw_iload_n hK 1 rfl dL_asks_147 ?_
                      refine aw_bipush hK (10) rfl dL_asks_148 ?_
                      refine aw_icmp_ne hK 173 rfl dL_asks_150 (fun hc => ?_) (fun hc => ?_)
                      · have hF := if_f hF hc
                        refine aw_iload_n hK 1 rfl dL_asks_173 ?_
                        refine aw_bipush hK (11) rfl dL_asks_174 ?_
                        refine aw_icmp_ne hK 203 rfl dL_asks_176 (fun hc => ?_) (fun hc => ?_)
                        · have hF := if_f hF hc
                          refine aw_iload_n hK 1 rfl dL_asks_203 ?_
                          refine aw_bipush hK (12) rfl dL_asks_204 ?_
                          refine aw_icmp_ne hK 220 rfl dL_asks_206 (fun hc => ?_) (fun hc => ?_)
                          · have hF := if_f hF hc
                            refine aw_aload_n hK 0 rfl dL_asks_220 ?_
                            refine aw_iload_n hK 2 rfl dL_asks_221 ?_
                            rcases calx_some hF with ⟨r3, m2, h1, hF⟩ | ⟨x_4, m2, h1, hF⟩
                            · refine aw_cvXr hK (kxb hR) 7 (as := [q_i x2]) (trX_X7_type h1) gL_asks_X7_type rfl rfl rfl (by decide) (na := 1) (by decide +kernel) rfl ⟨by decide, by decide⟩ (Nat.le_of_ble_eq_true rfl) (Nat.le_of_ble_eq_true rfl) dL_asks_222 ?_
                              refine aw_wd (n' := 7) (Nat.le_of_ble_eq_true rfl) ?_
                              refine aw_sub [] (lv' := []) rfl ?_
                              exact bk_L_asks_225 hK hR hF
                            · obtain ⟨rfl, rfl⟩ := Prod.mk.inj hF
                              exact aw_cvXx hK hR 7 (as := [q_i x2]) (trX_X7_type h1) gL_asks_X7_type rfl rfl rfl (by decide) (na := 1) (by decide +kernel) rfl ⟨by decide, by decide⟩ (Nat.le_of_ble_eq_true rfl) (Nat.le_of_ble_eq_true rfl) dL_asks_222
                          · have hF := if_t hF hc
                            refine aw_aload_n hK 0 rfl dL_asks_209 ?_
                            refine aw_iload_n hK 2 rfl dL_asks_210 ?_
                            refine aw_iload_n hK 3 rfl dL_asks_211 ?_
                            refine aw_iload hK 4 rfl dL_asks_212 ?_
                            rcases calx_some hF with ⟨r7, m6, h5, hF⟩ | ⟨x_8, m6, h5, hF⟩
                            · refine aw_cvXr hK (kxb hR) 7 (as := [q_i x2, q_i x3, q_i x4]) (trX_X7_apart h5) gL_asks_X7_apart rfl rfl rfl (by decide) (na := 3) (by decide +kernel) rfl ⟨by decide, by decide⟩ (Nat.le_of_ble_eq_true rfl) (Nat.le_of_ble_eq_true rfl) dL_asks_214 ?_
                              refine aw_goto hK 225 rfl dL_asks_217 ?_
                              refine aw_wd (n' := 7) (Nat.le_of_ble_eq_true rfl) ?_
                              refine aw_sub [] (lv' := []) rfl ?_
                              exact bk_L_asks_225 hK hR hF
                            · obtain ⟨rfl, rfl⟩ := Prod.mk.inj hF
                              exact aw_cvXx hK hR 7 (as := [q_i x2, q_i x3, q_i x4]) (trX_X7_apart h5) gL_asks_X7_apart rfl rfl rfl (by decide) (na := 3) (by decide +kernel) rfl ⟨by decide, by decide⟩ (Nat.le_of_ble_eq_true rfl) (Nat.le_of_ble_eq_true rfl) dL_asks_214
                        · have hF := if_t hF hc
                          refine aw_aload_n hK 0 rfl dL_asks_179 ?_
                          refine aw_iload_n hK 2 rfl dL_asks_180 ?_
                          refine aw_iload_n hK 3 rfl dL_asks_181 ?_
                          refine aw_iload hK 4 rfl dL_asks_182 ?_
                          refine aw_iload hK 5 rfl dL_asks_184 ?_
                          refine aw_iload hK 6 rfl dL_asks_186 ?_
                          refine aw_iconst hK (1) rfl dL_asks_188 ?_
                          refine aw_icmp_ne hK 196 rfl dL_asks_189 (fun hc => ?_) (fun hc => ?_)
                          · have hF := if_f hF hc
                            refine aw_iconst hK (0) rfl dL_asks_196 ?_
                            refine aw_wd (n' := 5) (Nat.le_of_ble_eq_true rfl) ?_
                            refine aw_sub [] (lv' := []) rfl ?_
                            exact bk_L_asks_197 hK hR hF
                          · have hF := if_t hF hc
                            refine aw_iconst hK (1) rfl dL_asks_192 ?_
                            refine aw_goto hK 197 rfl dL_asks_193 ?_
                            refine aw_wd (n' := 5) (Nat.le_of_ble_eq_true rfl) ?_
                            refine aw_sub [] (lv' := []) rfl ?_
                            exact bk_L_asks_197 hK hR hF
                      · have hF := if_t hF hc
                        refine aw_aload_n hK 0 rfl dL_asks_153 ?_
                        refine aw_iload_n hK 2 rfl dL_asks_154 ?_
                        refine aw_iload_n hK 3 rfl dL_asks_155 ?_
                        refine aw_iload hK 4 rfl dL_asks_156 ?_
                        refine aw_iconst hK (1) rfl dL_asks_158 ?_
                        refine aw_icmp_ne hK 166 rfl dL_asks_159 (fun hc => ?_) (fun hc => ?_)
                        · have hF := if_f hF hc
                          refine aw_iconst hK (0) rfl dL_asks_166 ?_
                          refine aw_sub [] (lv' := []) rfl ?_
                          exact bk_L_asks_167 hK hR hF
                        · have hF := if_t hF hc
                          refine aw_iconst hK (1) rfl dL_asks_162 ?_
                          refine aw_goto hK 167 rfl dL_asks_163 ?_
                          refine aw_sub [] (lv' := []) rfl ?_
                          exact bk_L_asks_167 hK hR hF
                    · have hF := if_t hF hc
                      refine aw_aload_n hK 0 rfl dL_asks_139 ?_
                      refine aw_iload_n hK 2 rfl dL_asks_140 ?_
                      rcases calx_some hF with ⟨r11, m10, h9, hF⟩ | ⟨x_12, m10, h9, hF⟩
                      · refine aw_cvXr hK (kxb hR) 7 (as := [q_i x2]) (trX_X7_least h9) gL_asks_X7_least rfl rfl rfl (by decide) (na := 1) (by decide +kernel) rfl ⟨by decide, by decide⟩ (Nat.le_of_ble_eq_true rfl) (Nat.le_of_ble_eq_true rfl) dL_asks_141 ?_
                        refine aw_goto hK 225 rfl dL_asks_144 ?_
                        refine aw_wd (n' := 7) (Nat.le_of_ble_eq_true rfl) ?_
                        refine aw_sub [] (lv' := []) rfl ?_
                        exact bk_L_asks_225 hK hR hF
                      · obtain ⟨rfl, rfl⟩ := Prod.mk.inj hF
                        exact aw_cvXx hK hR 7 (as := [q_i x2]) (trX_X7_least h9) gL_asks_X7_least rfl rfl rfl (by decide) (na := 1) (by decide +kernel) rfl ⟨by decide, by decide⟩ (Nat.le_of_ble_eq_true rfl) (Nat.le_of_ble_eq_true rfl) dL_asks_141
                  · have hF := if_t hF hc
                    refine aw_aload_n hK 0 rfl dL_asks_115 ?_
                    refine aw_iload_n hK 2 rfl dL_asks_116 ?_
                    refine aw_iload_n hK 3 rfl dL_asks_117 ?_
                    refine aw_iconst hK (1) rfl dL_asks_118 ?_
                    refine aw_icmp_ne hK 126 rfl dL_asks_119 (fun hc => ?_) (fun hc => ?_)
                    · have hF := if_f hF hc
                      refine aw_iconst hK (0) rfl dL_asks_126 ?_
                      refine aw_wd (n' := 5) (Nat.le_of_ble_eq_true rfl) ?_
                      refine aw_sub [] (lv' := []) rfl ?_
                      exact bk_L_asks_127 hK hR hF
                    · have hF := if_t hF hc
                      refine aw_iconst hK (1) rfl dL_asks_122 ?_
                      refine aw_goto hK 127 rfl dL_asks_123 ?_
                      refine aw_wd (n' := 5) (Nat.le_of_ble_eq_true rfl) ?_
                      refine aw_sub [] (lv' := []) rfl ?_
                      exact bk_L_asks_127 hK hR hF
                · have hF := if_t hF hc
                  refine aw_aload_n hK 0 rfl dL_asks_100 ?_
                  refine aw_iload_n hK 2 rfl dL_asks_101 ?_
                  refine aw_iload_n hK 3 rfl dL_asks_102 ?_
                  rcases calx_some hF with ⟨r15, m14, h13, hF⟩ | ⟨x_16, m14, h13, hF⟩
                  · refine aw_cvXr hK (kxb hR) 7 (as := [q_i x2, q_i x3]) (trX_X7_compose h13) gL_asks_X7_compose rfl rfl rfl (by decide) (na := 2) (by decide +kernel) rfl ⟨by decide, by decide⟩ (Nat.le_of_ble_eq_true rfl) (Nat.le_of_ble_eq_true rfl) dL_asks_103 ?_
                    refine aw_goto hK 225 rfl dL_asks_106 ?_
                    refine aw_wd (n' := 7) (Nat.le_of_ble_eq_true rfl) ?_
                    refine aw_sub [] (lv' := []) rfl ?_
                    exact bk_L_asks_225 hK hR hF
                  · obtain ⟨rfl, rfl⟩ := Prod.mk.inj hF
                    exact aw_cvXx hK hR 7 (as := [q_i x2, q_i x3]) (trX_X7_compose h13) gL_asks_X7_compose rfl rfl rfl (by decide) (na := 2) (by decide +kernel) rfl ⟨by decide, by decide⟩ (Nat.le_of_ble_eq_true rfl) (Nat.le_of_ble_eq_true rfl) dL_asks_103
              · have hF := if_t hF hc
                refine aw_aload_n hK 0 rfl dL_asks_86 ?_
                refine aw_iload_n hK 2 rfl dL_asks_87 ?_
                rcases calx_some hF with ⟨r19, m18, h17, hF⟩ | ⟨x_20, m18, h17, hF⟩
                · refine aw_cvXr hK (kxb hR) 7 (as := [q_i x2]) (trX_X7_turn h17) gL_asks_X7_turn rfl rfl rfl (by decide) (na := 1) (by decide +kernel) rfl ⟨by decide, by decide⟩ (Nat.le_of_ble_eq_true rfl) (Nat.le_of_ble_eq_true rfl) dL_asks_88 ?_
                  refine aw_goto hK 225 rfl dL_asks_91 ?_
                  refine aw_wd (n' := 7) (Nat.le_of_ble_eq_true rfl) ?_
                  refine aw_sub [] (lv' := []) rfl ?_
                  exact bk_L_asks_225 hK hR hF
                · obtain ⟨rfl, rfl⟩ := Prod.mk.inj hF
                  exact aw_cvXx hK hR 7 (as := [q_i x2]) (trX_X7_turn h17) gL_asks_X7_turn rfl rfl rfl (by decide) (na := 1) (by decide +kernel) rfl ⟨by decide, by decide⟩ (Nat.le_of_ble_eq_true rfl) (Nat.le_of_ble_eq_true rfl) dL_asks_88
            · have hF := if_t hF hc
              refine aw_aload_n hK 0 rfl dL_asks_72 ?_
              refine aw_iload_n hK 2 rfl dL_asks_73 ?_
              rcases calx_some hF with ⟨r23, m22, h21, hF⟩ | ⟨x_24, m22, h21, hF⟩
              · refine aw_cvXr hK (kxb hR) 7 (as := [q_i x2]) (trX_X7_repeat h21) gL_asks_X7_repeat rfl rfl rfl (by decide) (na := 1) (by decide +kernel) rfl ⟨by decide, by decide⟩ (Nat.le_of_ble_eq_true rfl) (Nat.le_of_ble_eq_true rfl) dL_asks_74 ?_
                refine aw_goto hK 225 rfl dL_asks_77 ?_
                refine aw_wd (n' := 7) (Nat.le_of_ble_eq_true rfl) ?_
                refine aw_sub [] (lv' := []) rfl ?_
                exact bk_L_asks_225 hK hR hF
              · obtain ⟨rfl, rfl⟩ := Prod.mk.inj hF
                exact aw_cvXx hK hR 7 (as := [q_i x2]) (trX_X7_repeat h21) gL_asks_X7_repeat rfl rfl rfl (by decide) (na := 1) (by decide +kernel) rfl ⟨by decide, by decide⟩ (Nat.le_of_ble_eq_true rfl) (Nat.le_of_ble_eq_true rfl) dL_asks_74
          · have hF := if_t hF hc
            refine aw_aload_n hK 0 rfl dL_asks_58 ?_
            refine aw_iload_n hK 2 rfl dL_asks_59 ?_
            refine aw_iload_n hK 3 rfl dL_asks_60 ?_
            rcases calx_some hF with ⟨r27, m26, h25, hF⟩ | ⟨x_28, m26, h25, hF⟩
            · refine aw_cvXr hK (kxb hR) 7 (as := [q_i x2, q_i x3]) (trX_X7_unite h25) gL_asks_X7_unite rfl rfl rfl (by decide) (na := 2) (by decide +kernel) rfl ⟨by decide, by decide⟩ (Nat.le_of_ble_eq_true rfl) (Nat.le_of_ble_eq_true rfl) dL_asks_61 ?_
              refine aw_goto hK 225 rfl dL_asks_64 ?_
              refine aw_wd (n' := 7) (Nat.le_of_ble_eq_true rfl) ?_
              refine aw_sub [] (lv' := []) rfl ?_
              exact bk_L_asks_225 hK hR hF
            · obtain ⟨rfl, rfl⟩ := Prod.mk.inj hF
              exact aw_cvXx hK hR 7 (as := [q_i x2, q_i x3]) (trX_X7_unite h25) gL_asks_X7_unite rfl rfl rfl (by decide) (na := 2) (by decide +kernel) rfl ⟨by decide, by decide⟩ (Nat.le_of_ble_eq_true rfl) (Nat.le_of_ble_eq_true rfl) dL_asks_61
        · have hF := if_t hF hc
          refine aw_aload_n hK 0 rfl dL_asks_44 ?_
          refine aw_iload_n hK 2 rfl dL_asks_45 ?_
          refine aw_iload_n hK 3 rfl dL_asks_46 ?_
          rcases calx_some hF with ⟨r31, m30, h29, hF⟩ | ⟨x_32, m30, h29, hF⟩
          · refine aw_cvXr hK (kxb hR) 7 (as := [q_i x2, q_i x3]) (trX_X7_join h29) gL_asks_X7_join rfl rfl rfl (by decide) (na := 2) (by decide +kernel) rfl ⟨by decide, by decide⟩ (Nat.le_of_ble_eq_true rfl) (Nat.le_of_ble_eq_true rfl) dL_asks_47 ?_
            refine aw_goto hK 225 rfl dL_asks_50 ?_
            refine aw_wd (n' := 7) (Nat.le_of_ble_eq_true rfl) ?_
            refine aw_sub [] (lv' := []) rfl ?_
            exact bk_L_asks_225 hK hR hF
          · obtain ⟨rfl, rfl⟩ := Prod.mk.inj hF
            exact aw_cvXx hK hR 7 (as := [q_i x2, q_i x3]) (trX_X7_join h29) gL_asks_X7_join rfl rfl rfl (by decide) (na := 2) (by decide +kernel) rfl ⟨by decide, by decide⟩ (Nat.le_of_ble_eq_true rfl) (Nat.le_of_ble_eq_true rfl) dL_asks_47
      · have hF := if_t hF hc
        refine aw_aload_n hK 0 rfl dL_asks_32 ?_
        rcases calx_some hF with ⟨r35, m34, h33, hF⟩ | ⟨x_36, m34, h33, hF⟩
        · refine aw_cvXr hK (kxb hR) 7 (as := []) (trX_X7_any h33) gL_asks_X7_any rfl rfl rfl (by decide) (na := 0) (by decide +kernel) rfl ⟨by decide, by decide⟩ (Nat.le_of_ble_eq_true rfl) (Nat.le_of_ble_eq_true rfl) dL_asks_33 ?_
          refine aw_goto hK 225 rfl dL_asks_36 ?_
          refine aw_wd (n' := 7) (Nat.le_of_ble_eq_true rfl) ?_
          refine aw_sub [] (lv' := []) rfl ?_
          exact bk_L_asks_225 hK hR hF
        · obtain ⟨rfl, rfl⟩ := Prod.mk.inj hF
          exact aw_cvXx hK hR 7 (as := []) (trX_X7_any h33) gL_asks_X7_any rfl rfl rfl (by decide) (na := 0) (by decide +kernel) rfl ⟨by decide, by decide⟩ (Nat.le_of_ble_eq_true rfl) (Nat.le_of_ble_eq_true rfl) dL_asks_33
    · have hF := if_t hF hc
      refine aw_aload_n hK 0 rfl dL_asks_20 ?_
      rcases calx_some hF with ⟨r39, m38, h37, hF⟩ | ⟨x_40, m38, h37, hF⟩
      · refine aw_cvXr hK (kxb hR) 7 (as := []) (trX_X7_word h37) gL_asks_X7_word rfl rfl rfl (by decide) (na := 0) (by decide +kernel) rfl ⟨by decide, by decide⟩ (Nat.le_of_ble_eq_true rfl) (Nat.le_of_ble_eq_true rfl) dL_asks_21 ?_
        refine aw_goto hK 225 rfl dL_asks_24 ?_
        refine aw_wd (n' := 7) (Nat.le_of_ble_eq_true rfl) ?_
        refine aw_sub [] (lv' := []) rfl ?_
        exact bk_L_asks_225 hK hR hF
      · obtain ⟨rfl, rfl⟩ := Prod.mk.inj hF
        exact aw_cvXx hK hR 7 (as := []) (trX_X7_word h37) gL_asks_X7_word rfl rfl rfl (by decide) (na := 0) (by decide +kernel) rfl ⟨by decide, by decide⟩ (Nat.le_of_ble_eq_true rfl) (Nat.le_of_ble_eq_true rfl) dL_asks_21
  · have hF := if_t hF hc
    refine aw_aload_n hK 0 rfl dL_asks_4 ?_
    refine aw_iload_n hK 2 rfl dL_asks_5 ?_
    refine aw_iload_n hK 3 rfl dL_asks_6 ?_
    refine aw_iload hK 4 rfl dL_asks_7 ?_
    rcases calx_some hF with ⟨r43, m42, h41, hF⟩ | ⟨x_44, m42, h41, hF⟩
    · refine aw_cvXr hK (kxb hR) 7 (as := [q_i x2, q_i x3, q_i x4]) (trX_X7_pair h41) gL_asks_X7_pair rfl rfl rfl (by decide) (na := 3) (by decide +kernel) rfl ⟨by decide, by decide⟩ (Nat.le_of_ble_eq_true rfl) (Nat.le_of_ble_eq_true rfl) dL_asks_9 ?_
      refine aw_goto hK 225 rfl dL_asks_12 ?_
      refine aw_wd (n' := 7) (Nat.le_of_ble_eq_true rfl) ?_
      refine aw_sub [] (lv' := []) rfl ?_
      exact bk_L_asks_225 hK hR hF
    · obtain ⟨rfl, rfl⟩ := Prod.mk.inj hF
      exact aw_cvXx hK hR 7 (as := [q_i x2, q_i x3, q_i x4]) (trX_X7_pair h41) gL_asks_X7_pair rfl rfl rfl (by decide) (na := 3) (by decide +kernel) rfl ⟨by decide, by decide⟩ (Nat.le_of_ble_eq_true rfl) (Nat.le_of_ble_eq_true rfl) dL_asks_9
set_option maxRecDepth 100000 in
set_option maxHeartbeats 4000000 in
theorem bkN_L_asks_225 {N : Nat} {K : KT} {m' : Mem} {r : Int32} (hK : KOK K cL_asks 7 RL wsL_asks 8 0 162) (hR : KRet K (some .int) (some r) m') {m : Mem} {s0 : Int32} (hF : B_L_asks_225 N m s0 = some (.inl r, m')) : AW K 0 225 [] [q_i s0] m := by
  unfold B_L_asks_225 at hF
  obtain ⟨e1, rfl⟩ := so_inj hF
  cases e1
  exact aw_iret hK hR rfl dL_asks_225
set_option maxRecDepth 100000 in
set_option maxHeartbeats 4000000 in
theorem bkN_L_asks_197 {N : Nat} {K : KT} {m' : Mem} {r : Int32} (hK : KOK K cL_asks 7 RL wsL_asks 8 0 162) (hR : KRet K (some .int) (some r) m') {m : Mem} {s0 : Int32} {s1 : Int32} {s2 : Int32} {s3 : Int32} {s4 : Int32} (hF : B_L_asks_197 N m s0 s1 s2 s3 s4 = some (.inl r, m')) : AW K 0 197 [] [q_i s0, q_i s1, q_i s2, q_i s3, q_i s4, q_r 0] m := by
  unfold B_L_asks_197 at hF
  rcases calx_some hF with ⟨r55, m54, h53, hF⟩ | ⟨x_56, m54, h53, hF⟩
  · refine aw_cv hK 7 (as := [q_i s4, q_i s3, q_i s2, q_i s1, q_i s0]) (trN_X7_rule h53) gL_asks_X7_rule rfl rfl rfl (by decide) (na := 5) (by decide +kernel) rfl ⟨by decide, by decide⟩ (Nat.zero_le _) (Nat.le_of_ble_eq_true rfl) dL_asks_197 ?_
    refine aw_goto hK 225 rfl dL_asks_200 ?_
    refine aw_sub [] (lv' := []) rfl ?_
    exact bkN_L_asks_225 hK hR hF
  · cases hF
set_option maxRecDepth 100000 in
set_option maxHeartbeats 4000000 in
theorem bkN_L_asks_167 {N : Nat} {K : KT} {m' : Mem} {r : Int32} (hK : KOK K cL_asks 7 RL wsL_asks 8 0 162) (hR : KRet K (some .int) (some r) m') {m : Mem} {s0 : Int32} {s1 : Int32} {s2 : Int32} (hF : B_L_asks_167 N m s0 s1 s2 = some (.inl r, m')) : AW K 0 167 [] [q_i s0, q_i s1, q_i s2, q_r 0] m := by
  unfold B_L_asks_167 at hF
  rcases calx_some hF with ⟨r51, m50, h49, hF⟩ | ⟨x_52, m50, h49, hF⟩
  · refine aw_cv hK 7 (as := [q_i s2, q_i s1, q_i s0]) (trN_X7_meet h49) gL_asks_X7_meet rfl rfl rfl (by decide) (na := 3) (by decide +kernel) rfl ⟨by decide, by decide⟩ (Nat.zero_le _) (Nat.le_of_ble_eq_true rfl) dL_asks_167 ?_
    refine aw_goto hK 225 rfl dL_asks_170 ?_
    refine aw_sub [] (lv' := []) rfl ?_
    exact bkN_L_asks_225 hK hR hF
  · cases hF
set_option maxRecDepth 100000 in
set_option maxHeartbeats 4000000 in
theorem bkN_L_asks_127 {N : Nat} {K : KT} {m' : Mem} {r : Int32} (hK : KOK K cL_asks 7 RL wsL_asks 8 0 162) (hR : KRet K (some .int) (some r) m') {m : Mem} {s0 : Int32} {s1 : Int32} (hF : B_L_asks_127 N m s0 s1 = some (.inl r, m')) : AW K 0 127 [] [q_i s0, q_i s1, q_r 0] m := by
  unfold B_L_asks_127 at hF
  rcases calx_some hF with ⟨r47, m46, h45, hF⟩ | ⟨x_48, m46, h45, hF⟩
  · refine aw_cv hK 7 (as := [q_i s1, q_i s0]) (trN_X7_side h45) gL_asks_X7_side rfl rfl rfl (by decide) (na := 2) (by decide +kernel) rfl ⟨by decide, by decide⟩ (Nat.zero_le _) (Nat.le_of_ble_eq_true rfl) dL_asks_127 ?_
    refine aw_goto hK 225 rfl dL_asks_130 ?_
    refine aw_sub [] (lv' := []) rfl ?_
    exact bkN_L_asks_225 hK hR hF
  · cases hF
set_option maxRecDepth 100000 in
set_option maxHeartbeats 4000000 in
theorem trN_L_asks {N : Nat} {m m' : Mem} {r : Int32} {x1 : Int32} {x2 : Int32} {x3 : Int32} {x4 : Int32} {x5 : Int32} {x6 : Int32} (hF : F_L_asks N m x1 x2 x3 x4 x5 x6 = some (.inl r, m')) : Tr yL_asks wsL_asks 8 162 [q_r 0, q_i x1, q_i x2, q_i x3, q_i x4, q_i x5, q_i x6] m (some r) m' := by
  refine tr_of (bytes := cL_asks) (maxL := 7) (ret := (some .int)) (by decide) rfl (Nat.le_of_ble_eq_true rfl) (fun K hK hR => ?_)
  have hK : KOK K cL_asks 7 RL wsL_asks 8 0 162 := hK
  show AW K 0 0 [(0, q_r 0), (1, q_i x1), (2, q_i x2), (3, q_i x3), (4, q_i x4), (5, q_i x5), (6, q_i x6)] [] m
  unfold F_L_asks at hF
  refine aw_iload_n hK 1 rfl dL_asks_0 ?_
  refine aw_if_ne hK 15 rfl dL_asks_1 (fun hc => ?_) (fun hc => ?_)
  · have hF := if_f hF hc
    refine aw_iload_n hK 1 rfl dL_asks_15 ?_
    refine aw_iconst hK (1) rfl dL_asks_16 ?_
    refine aw_icmp_ne hK 27 rfl dL_asks_17 (fun hc => ?_) (fun hc => ?_)
    · have hF := if_f hF hc
      refine aw_iload_n hK 1 rfl dL_asks_27 ?_
      refine aw_iconst hK (2) rfl dL_asks_28 ?_
      refine aw_icmp_ne hK 39 rfl dL_asks_29 (fun hc => ?_) (fun hc => ?_)
      · have hF := if_f hF hc
        refine aw_iload_n hK 1 rfl dL_asks_39 ?_
        refine aw_iconst hK (3) rfl dL_asks_40 ?_
        refine aw_icmp_ne hK 53 rfl dL_asks_41 (fun hc => ?_) (fun hc => ?_)
        · have hF := if_f hF hc
          refine aw_iload_n hK 1 rfl dL_asks_53 ?_
          refine aw_iconst hK (4) rfl dL_asks_54 ?_
          refine aw_icmp_ne hK 67 rfl dL_asks_55 (fun hc => ?_) (fun hc => ?_)
          · have hF := if_f hF hc
            refine aw_iload_n hK 1 rfl dL_asks_67 ?_
            refine aw_iconst hK (5) rfl dL_asks_68 ?_
            refine aw_icmp_ne hK 80 rfl dL_asks_69 (fun hc => ?_) (fun hc => ?_)
            · have hF := if_f hF hc
              refine aw_iload_n hK 1 rfl dL_asks_80 ?_
              refine aw_bipush hK (6) rfl dL_asks_81 ?_
              refine aw_icmp_ne hK 94 rfl dL_asks_83 (fun hc => ?_) (fun hc => ?_)
              · have hF := if_f hF hc
                refine aw_iload_n hK 1 rfl dL_asks_94 ?_
                refine aw_bipush hK (7) rfl dL_asks_95 ?_
                refine aw_icmp_ne hK 109 rfl dL_asks_97 (fun hc => ?_) (fun hc => ?_)
                · have hF := if_f hF hc
                  refine aw_iload_n hK 1 rfl dL_asks_109 ?_
                  refine aw_bipush hK (8) rfl dL_asks_110 ?_
                  refine aw_icmp_ne hK 133 rfl dL_asks_112 (fun hc => ?_) (fun hc => ?_)
                  · have hF := if_f hF hc
                    refine aw_iload_n hK 1 rfl dL_asks_133 ?_
                    refine aw_bipush hK (9) rfl dL_asks_134 ?_
                    refine aw_icmp_ne hK 147 rfl dL_asks_136 (fun hc => ?_) (fun hc => ?_)
                    · have hF := if_f hF hc
                      refine aw_iload_n hK 1 rfl dL_asks_147 ?_
                      refine aw_bipush hK (10) rfl dL_asks_148 ?_
                      refine aw_icmp_ne hK 173 rfl dL_asks_150 (fun hc => ?_) (fun hc => ?_)
                      · have hF := if_f hF hc
                        refine aw_iload_n hK 1 rfl dL_asks_173 ?_
                        refine aw_bipush hK (11) rfl dL_asks_174 ?_
                        refine aw_icmp_ne hK 203 rfl dL_asks_176 (fun hc => ?_) (fun hc => ?_)
                        · have hF := if_f hF hc
                          refine aw_iload_n hK 1 rfl dL_asks_203 ?_
                          refine aw_bipush hK (12) rfl dL_asks_204 ?_
                          refine aw_icmp_ne hK 220 rfl dL_asks_206 (fun hc => ?_) (fun hc => ?_)
                          · have hF := if_f hF hc
                            refine aw_aload_n hK 0 rfl dL_asks_220 ?_
                            refine aw_iload_n hK 2 rfl dL_asks_221 ?_
                            rcases calx_some hF with ⟨r3, m2, h1, hF⟩ | ⟨x_4, m2, h1, hF⟩
                            · refine aw_cv hK 7 (as := [q_i x2]) (trN_X7_type h1) gL_asks_X7_type rfl rfl rfl (by decide) (na := 1) (by decide +kernel) rfl ⟨by decide, by decide⟩ (Nat.zero_le _) (Nat.le_of_ble_eq_true rfl) dL_asks_222 ?_
                              refine aw_sub [] (lv' := []) rfl ?_
                              exact bkN_L_asks_225 hK hR hF
                            · cases hF
                          · have hF := if_t hF hc
                            refine aw_aload_n hK 0 rfl dL_asks_209 ?_
                            refine aw_iload_n hK 2 rfl dL_asks_210 ?_
                            refine aw_iload_n hK 3 rfl dL_asks_211 ?_
                            refine aw_iload hK 4 rfl dL_asks_212 ?_
                            rcases calx_some hF with ⟨r7, m6, h5, hF⟩ | ⟨x_8, m6, h5, hF⟩
                            · refine aw_cv hK 7 (as := [q_i x2, q_i x3, q_i x4]) (trN_X7_apart h5) gL_asks_X7_apart rfl rfl rfl (by decide) (na := 3) (by decide +kernel) rfl ⟨by decide, by decide⟩ (Nat.zero_le _) (Nat.le_of_ble_eq_true rfl) dL_asks_214 ?_
                              refine aw_goto hK 225 rfl dL_asks_217 ?_
                              refine aw_sub [] (lv' := []) rfl ?_
                              exact bkN_L_asks_225 hK hR hF
                            · cases hF
                        · have hF := if_t hF hc
                          refine aw_aload_n hK 0 rfl dL_asks_179 ?_
                          refine aw_iload_n hK 2 rfl dL_asks_180 ?_
                          refine aw_iload_n hK 3 rfl dL_asks_181 ?_
                          refine aw_iload hK 4 rfl dL_asks_182 ?_
                          refine aw_iload hK 5 rfl dL_asks_184 ?_
                          refine aw_iload hK 6 rfl dL_asks_186 ?_
                          refine aw_iconst hK (1) rfl dL_asks_188 ?_
                          refine aw_icmp_ne hK 196 rfl dL_asks_189 (fun hc => ?_) (fun hc => ?_)
                          · have hF := if_f hF hc
                            refine aw_iconst hK (0) rfl dL_asks_196 ?_
                            refine aw_sub [] (lv' := []) rfl ?_
                            exact bkN_L_asks_197 hK hR hF
                          · have hF := if_t hF hc
                            refine aw_iconst hK (1) rfl dL_asks_192 ?_
                            refine aw_goto hK 197 rfl dL_asks_193 ?_
                            refine aw_sub [] (lv' := []) rfl ?_
                            exact bkN_L_asks_197 hK hR hF
                      · have hF := if_t hF hc
                        refine aw_aload_n hK 0 rfl dL_asks_153 ?_
                        refine aw_iload_n hK 2 rfl dL_asks_154 ?_
                        refine aw_iload_n hK 3 rfl dL_asks_155 ?_
                        refine aw_iload hK 4 rfl dL_asks_156 ?_
                        refine aw_iconst hK (1) rfl dL_asks_158 ?_
                        refine aw_icmp_ne hK 166 rfl dL_asks_159 (fun hc => ?_) (fun hc => ?_)
                        · have hF := if_f hF hc
                          refine aw_iconst hK (0) rfl dL_asks_166 ?_
                          refine aw_sub [] (lv' := []) rfl ?_
                          exact bkN_L_asks_167 hK hR hF
                        · have hF := if_t hF hc
                          refine aw_iconst hK (1) rfl dL_asks_162 ?_
                          refine aw_goto hK 167 rfl dL_asks_163 ?_
                          refine aw_sub [] (lv' := []) rfl ?_
                          exact bkN_L_asks_167 hK hR hF
                    · have hF := if_t hF hc
                      refine aw_aload_n hK 0 rfl dL_asks_139 ?_
                      refine aw_iload_n hK 2 rfl dL_asks_140 ?_
                      rcases calx_some hF with ⟨r11, m10, h9, hF⟩ | ⟨x_12, m10, h9, hF⟩
                      · refine aw_cv hK 7 (as := [q_i x2]) (trN_X7_least h9) gL_asks_X7_least rfl rfl rfl (by decide) (na := 1) (by decide +kernel) rfl ⟨by decide, by decide⟩ (Nat.zero_le _) (Nat.le_of_ble_eq_true rfl) dL_asks_141 ?_
                        refine aw_goto hK 225 rfl dL_asks_144 ?_
                        refine aw_sub [] (lv' := []) rfl ?_
                        exact bkN_L_asks_225 hK hR hF
                      · cases hF
                  · have hF := if_t hF hc
                    refine aw_aload_n hK 0 rfl dL_asks_115 ?_
                    refine aw_iload_n hK 2 rfl dL_asks_116 ?_
                    refine aw_iload_n hK 3 rfl dL_asks_117 ?_
                    refine aw_iconst hK (1) rfl dL_asks_118 ?_
                    refine aw_icmp_ne hK 126 rfl dL_asks_119 (fun hc => ?_) (fun hc => ?_)
                    · have hF := if_f hF hc
                      refine aw_iconst hK (0) rfl dL_asks_126 ?_
                      refine aw_sub [] (lv' := []) rfl ?_
                      exact bkN_L_asks_127 hK hR hF
                    · have hF := if_t hF hc
                      refine aw_iconst hK (1) rfl dL_asks_122 ?_
                      refine aw_goto hK 127 rfl dL_asks_123 ?_
                      refine aw_sub [] (lv' := []) rfl ?_
                      exact bkN_L_asks_127 hK hR hF
                · have hF := if_t hF hc
                  refine aw_aload_n hK 0 rfl dL_asks_100 ?_
                  refine aw_iload_n hK 2 rfl dL_asks_101 ?_
                  refine aw_iload_n hK 3 rfl dL_asks_102 ?_
                  rcases calx_some hF with ⟨r15, m14, h13, hF⟩ | ⟨x_16, m14, h13, hF⟩
                  · refine aw_cv hK 7 (as := [q_i x2, q_i x3]) (trN_X7_compose h13) gL_asks_X7_compose rfl rfl rfl (by decide) (na := 2) (by decide +kernel) rfl ⟨by decide, by decide⟩ (Nat.zero_le _) (Nat.le_of_ble_eq_true rfl) dL_asks_103 ?_
                    refine aw_goto hK 225 rfl dL_asks_106 ?_
                    refine aw_sub [] (lv' := []) rfl ?_
                    exact bkN_L_asks_225 hK hR hF
                  · cases hF
              · have hF := if_t hF hc
                refine aw_aload_n hK 0 rfl dL_asks_86 ?_
                refine aw_iload_n hK 2 rfl dL_asks_87 ?_
                rcases calx_some hF with ⟨r19, m18, h17, hF⟩ | ⟨x_20, m18, h17, hF⟩
                · refine aw_cv hK 7 (as := [q_i x2]) (trN_X7_turn h17) gL_asks_X7_turn rfl rfl rfl (by decide) (na := 1) (by decide +kernel) rfl ⟨by decide, by decide⟩ (Nat.zero_le _) (Nat.le_of_ble_eq_true rfl) dL_asks_88 ?_
                  refine aw_goto hK 225 rfl dL_asks_91 ?_
                  refine aw_sub [] (lv' := []) rfl ?_
                  exact bkN_L_asks_225 hK hR hF
                · cases hF
            · have hF := if_t hF hc
              refine aw_aload_n hK 0 rfl dL_asks_72 ?_
              refine aw_iload_n hK 2 rfl dL_asks_73 ?_
              rcases calx_some hF with ⟨r23, m22, h21, hF⟩ | ⟨x_24, m22, h21, hF⟩
              · refine aw_cv hK 7 (as := [q_i x2]) (trN_X7_repeat h21) gL_asks_X7_repeat rfl rfl rfl (by decide) (na := 1) (by decide +kernel) rfl ⟨by decide, by decide⟩ (Nat.zero_le _) (Nat.le_of_ble_eq_true rfl) dL_asks_74 ?_
                refine aw_goto hK 225 rfl dL_asks_77 ?_
                refine aw_sub [] (lv' := []) rfl ?_
                exact bkN_L_asks_225 hK hR hF
              · cases hF
          · have hF := if_t hF hc
            refine aw_aload_n hK 0 rfl dL_asks_58 ?_
            refine aw_iload_n hK 2 rfl dL_asks_59 ?_
            refine aw_iload_n hK 3 rfl dL_asks_60 ?_
            rcases calx_some hF with ⟨r27, m26, h25, hF⟩ | ⟨x_28, m26, h25, hF⟩
            · refine aw_cv hK 7 (as := [q_i x2, q_i x3]) (trN_X7_unite h25) gL_asks_X7_unite rfl rfl rfl (by decide) (na := 2) (by decide +kernel) rfl ⟨by decide, by decide⟩ (Nat.zero_le _) (Nat.le_of_ble_eq_true rfl) dL_asks_61 ?_
              refine aw_goto hK 225 rfl dL_asks_64 ?_
              refine aw_sub [] (lv' := []) rfl ?_
              exact bkN_L_asks_225 hK hR hF
            · cases hF
        · have hF := if_t hF hc
          refine aw_aload_n hK 0 rfl dL_asks_44 ?_
          refine aw_iload_n hK 2 rfl dL_asks_45 ?_
          refine aw_iload_n hK 3 rfl dL_asks_46 ?_
          rcases calx_some hF with ⟨r31, m30, h29, hF⟩ | ⟨x_32, m30, h29, hF⟩
          · refine aw_cv hK 7 (as := [q_i x2, q_i x3]) (trN_X7_join h29) gL_asks_X7_join rfl rfl rfl (by decide) (na := 2) (by decide +kernel) rfl ⟨by decide, by decide⟩ (Nat.zero_le _) (Nat.le_of_ble_eq_true rfl) dL_asks_47 ?_
            refine aw_goto hK 225 rfl dL_asks_50 ?_
            refine aw_sub [] (lv' := []) rfl ?_
            exact bkN_L_asks_225 hK hR hF
          · cases hF
      · have hF := if_t hF hc
        refine aw_aload_n hK 0 rfl dL_asks_32 ?_
        rcases calx_some hF with ⟨r35, m34, h33, hF⟩ | ⟨x_36, m34, h33, hF⟩
        · refine aw_cv hK 7 (as := []) (trN_X7_any h33) gL_asks_X7_any rfl rfl rfl (by decide) (na := 0) (by decide +kernel) rfl ⟨by decide, by decide⟩ (Nat.zero_le _) (Nat.le_of_ble_eq_true rfl) dL_asks_33 ?_
          refine aw_goto hK 225 rfl dL_asks_36 ?_
          refine aw_sub [] (lv' := []) rfl ?_
          exact bkN_L_asks_225 hK hR hF
        · cases hF
    · have hF := if_t hF hc
      refine aw_aload_n hK 0 rfl dL_asks_20 ?_
      rcases calx_some hF with ⟨r39, m38, h37, hF⟩ | ⟨x_40, m38, h37, hF⟩
      · refine aw_cv hK 7 (as := []) (trN_X7_word h37) gL_asks_X7_word rfl rfl rfl (by decide) (na := 0) (by decide +kernel) rfl ⟨by decide, by decide⟩ (Nat.zero_le _) (Nat.le_of_ble_eq_true rfl) dL_asks_21 ?_
        refine aw_goto hK 225 rfl dL_asks_24 ?_
        refine aw_sub [] (lv' := []) rfl ?_
        exact bkN_L_asks_225 hK hR hF
      · cases hF
  · have hF := if_t hF hc
    refine aw_aload_n hK 0 rfl dL_asks_4 ?_
    refine aw_iload_n hK 2 rfl dL_asks_5 ?_
    refine aw_iload_n hK 3 rfl dL_asks_6 ?_
    refine aw_iload hK 4 rfl dL_asks_7 ?_
    rcases calx_some hF with ⟨r43, m42, h41, hF⟩ | ⟨x_44, m42, h41, hF⟩
    · refine aw_cv hK 7 (as := [q_i x2, q_i x3, q_i x4]) (trN_X7_pair h41) gL_asks_X7_pair rfl rfl rfl (by decide) (na := 3) (by decide +kernel) rfl ⟨by decide, by decide⟩ (Nat.zero_le _) (Nat.le_of_ble_eq_true rfl) dL_asks_9 ?_
      refine aw_goto hK 225 rfl dL_asks_12 ?_
      refine aw_sub [] (lv' := []) rfl ?_
      exact bkN_L_asks_225 hK hR hF
    · cases hF
def F_L_on (N : Nat) (m : Mem) (x1 : Int32) (x2 : Int32) (x3 : Int32) (x4 : Int32) (x5 : Int32) (x6 : Int32) : Option (Int32 × Mem) :=
  calw (F_L_asks N m x1 x2 x3 x4 x5 x6) (fun r3 m2 =>
    some (r3, m2)
  ) (fun x_4 m2 =>
  if x_4 = 2 then (
    some ((-11 : Int32), m2)
  ) else (
  if x_4 = 0 then (
    some ((-12 : Int32), m2)
  ) else (
  if x_4 = 1 then (
    some ((-13 : Int32), m2)
  ) else (
  none))))
set_option maxRecDepth 100000 in
set_option maxHeartbeats 4000000 in
theorem trW_L_on {N : Nat} {m m' : Mem} {r : Int32} {x1 : Int32} {x2 : Int32} {x3 : Int32} {x4 : Int32} {x5 : Int32} {x6 : Int32} (hF : F_L_on N m x1 x2 x3 x4 x5 x6 = some (r, m')) : TrW yL_on wsL_on 9 188 7 [q_r 0, q_i x1, q_i x2, q_i x3, q_i x4, q_i x5, q_i x6] m r m' := by
  refine trW_of (bytes := cL_on) (maxL := 8) (ret := (some .int)) (hh := [(0, 13, 14, 64), (0, 13, 19, 66), (0, 13, 24, 68)]) (by decide) rfl (Nat.le_of_ble_eq_true rfl) (fun K hK hR => ?_)
  have hK : KOK K cL_on 8 RL wsL_on 9 7 188 := hK
  show AW K 0 0 [(0, q_r 0), (1, q_i x1), (2, q_i x2), (3, q_i x3), (4, q_i x4), (5, q_i x5), (6, q_i x6)] [] m
  unfold F_L_on at hF
  refine aw_aload_n hK 0 rfl dL_on_0 ?_
  refine aw_iload_n hK 1 rfl dL_on_1 ?_
  refine aw_iload_n hK 2 rfl dL_on_2 ?_
  refine aw_iload_n hK 3 rfl dL_on_3 ?_
  refine aw_iload hK 4 rfl dL_on_4 ?_
  refine aw_iload hK 5 rfl dL_on_6 ?_
  refine aw_iload hK 6 rfl dL_on_8 ?_
  rcases calw_some hF with ⟨r3, m2, h1, hF⟩ | ⟨x_4, m2, h1, hF⟩
  · refine aw_csPXr hK (kwb hR) (as := [q_r 0, q_i x1, q_i x2, q_i x3, q_i x4, q_i x5, q_i x6]) (trX_L_asks h1) gL_on_L_asks rfl (na := 7) (by decide +kernel) rfl ⟨by decide, by decide⟩ (Nat.le_of_ble_eq_true rfl) (Nat.le_of_ble_eq_true rfl) dL_on_10 ?_
    obtain ⟨rfl, rfl⟩ := so_inj hF
    exact aw_iretW hK hR (Nat.le_of_ble_eq_true rfl) dL_on_13
  · by_cases hx0 : x_4 = 2
    · have hF := if_t hF hx0
      subst hx0
      refine aw_csWx hK hR (as := [q_r 0, q_i x1, q_i x2, q_i x3, q_i x4, q_i x5, q_i x6]) (trX_L_asks h1) gL_on_L_asks rfl (na := 7) (by decide +kernel) rfl ⟨by decide, by decide⟩ (Nat.le_of_ble_eq_true rfl) (Nat.le_of_ble_eq_true rfl) dL_on_10 (by decide) [] ⟨0, 13, 14, 64⟩ [⟨0, 13, 19, 66⟩, ⟨0, 13, 24, 68⟩] rfl (fun _ h => absurd h List.not_mem_nil) (by decide) (by decide) (List.mem_of_getElem? (i := 1) rfl) (fun q => ?_)
      refine aw_astoreV hK [(7, q_v (.ref q)), (0, q_r 0), (1, q_i x1), (2, q_i x2), (3, q_i x3), (4, q_i x4), (5, q_i x5), (6, q_i x6)] (by decide) rfl dL_on_14 ?_
      refine aw_bipush hK (-11) rfl dL_on_16 ?_
      obtain ⟨rfl, rfl⟩ := so_inj hF
      exact aw_iretW hK hR (Nat.le_of_ble_eq_true rfl) dL_on_18
    have hF := if_f hF hx0
    by_cases hx1 : x_4 = 0
    · have hF := if_t hF hx1
      subst hx1
      refine aw_csWx hK hR (as := [q_r 0, q_i x1, q_i x2, q_i x3, q_i x4, q_i x5, q_i x6]) (trX_L_asks h1) gL_on_L_asks rfl (na := 7) (by decide +kernel) rfl ⟨by decide, by decide⟩ (Nat.le_of_ble_eq_true rfl) (Nat.le_of_ble_eq_true rfl) dL_on_10 (by decide) [⟨0, 13, 14, 64⟩] ⟨0, 13, 19, 66⟩ [⟨0, 13, 24, 68⟩] rfl (List.forall_mem_cons.mpr ⟨Or.inr ⟨by decide, 2, by decide, by decide, (List.mem_of_getElem? (i := 1) rfl)⟩, fun _ h => absurd h List.not_mem_nil⟩) (by decide) (by decide) (List.mem_of_getElem? (i := 2) rfl) (fun q => ?_)
      refine aw_astoreV hK [(7, q_v (.ref q)), (0, q_r 0), (1, q_i x1), (2, q_i x2), (3, q_i x3), (4, q_i x4), (5, q_i x5), (6, q_i x6)] (by decide) rfl dL_on_19 ?_
      refine aw_bipush hK (-12) rfl dL_on_21 ?_
      obtain ⟨rfl, rfl⟩ := so_inj hF
      exact aw_iretW hK hR (Nat.le_of_ble_eq_true rfl) dL_on_23
    have hF := if_f hF hx1
    by_cases hx2 : x_4 = 1
    · have hF := if_t hF hx2
      subst hx2
      refine aw_csWx hK hR (as := [q_r 0, q_i x1, q_i x2, q_i x3, q_i x4, q_i x5, q_i x6]) (trX_L_asks h1) gL_on_L_asks rfl (na := 7) (by decide +kernel) rfl ⟨by decide, by decide⟩ (Nat.le_of_ble_eq_true rfl) (Nat.le_of_ble_eq_true rfl) dL_on_10 (by decide) [⟨0, 13, 14, 64⟩, ⟨0, 13, 19, 66⟩] ⟨0, 13, 24, 68⟩ [] rfl (List.forall_mem_cons.mpr ⟨Or.inr ⟨by decide, 2, by decide, by decide, (List.mem_of_getElem? (i := 1) rfl)⟩, List.forall_mem_cons.mpr ⟨Or.inr ⟨by decide, 0, by decide, by decide, (List.mem_of_getElem? (i := 2) rfl)⟩, fun _ h => absurd h List.not_mem_nil⟩⟩) (by decide) (by decide) (List.mem_of_getElem? (i := 3) rfl) (fun q => ?_)
      refine aw_astoreV hK [(7, q_v (.ref q)), (0, q_r 0), (1, q_i x1), (2, q_i x2), (3, q_i x3), (4, q_i x4), (5, q_i x5), (6, q_i x6)] (by decide) rfl dL_on_24 ?_
      refine aw_bipush hK (-13) rfl dL_on_26 ?_
      obtain ⟨rfl, rfl⟩ := so_inj hF
      exact aw_iretW hK hR (Nat.le_of_ble_eq_true rfl) dL_on_28
    have hF := if_f hF hx2
    cases hF
set_option maxRecDepth 100000 in
set_option maxHeartbeats 4000000 in
theorem trN_L_on {N : Nat} {m m' : Mem} {r : Int32} {x1 : Int32} {x2 : Int32} {x3 : Int32} {x4 : Int32} {x5 : Int32} {x6 : Int32} (hF : F_L_asks N m x1 x2 x3 x4 x5 x6 = some (.inl r, m')) : Tr yL_on wsL_on 9 188 [q_r 0, q_i x1, q_i x2, q_i x3, q_i x4, q_i x5, q_i x6] m (some r) m' := by
  refine tr_ofW (bytes := cL_on) (maxL := 8) (ret := (some .int)) (hh := [(0, 13, 14, 64), (0, 13, 19, 66), (0, 13, 24, 68)]) (by decide) rfl (Nat.le_of_ble_eq_true rfl) (fun K hK hR => ?_)
  have hK : KOK K cL_on 8 RL wsL_on 9 0 188 := hK
  show AW K 0 0 [(0, q_r 0), (1, q_i x1), (2, q_i x2), (3, q_i x3), (4, q_i x4), (5, q_i x5), (6, q_i x6)] [] m
  refine aw_aload_n hK 0 rfl dL_on_0 ?_
  refine aw_iload_n hK 1 rfl dL_on_1 ?_
  refine aw_iload_n hK 2 rfl dL_on_2 ?_
  refine aw_iload_n hK 3 rfl dL_on_3 ?_
  refine aw_iload hK 4 rfl dL_on_4 ?_
  refine aw_iload hK 5 rfl dL_on_6 ?_
  refine aw_iload hK 6 rfl dL_on_8 ?_
  refine aw_csP hK (as := [q_r 0, q_i x1, q_i x2, q_i x3, q_i x4, q_i x5, q_i x6]) (trN_L_asks hF) gL_on_L_asks rfl (na := 7) (by decide +kernel) rfl ⟨by decide, by decide⟩ (Nat.zero_le _) (Nat.le_of_ble_eq_true rfl) dL_on_10 ?_
  exact aw_iret hK hR rfl dL_on_13