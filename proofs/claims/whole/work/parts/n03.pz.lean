/-! a step of the law, and all of it -/
theorem lg_refl (x : Int32) : lg_cmp x.toInt64 x.toInt64 = (0 : Int32) := by
  unfold lg_cmp
  rw [if_neg (Int64.lt_irrefl), if_pos rfl]
theorem law_fin {N : Nat} {m2 : Mem} {k b : Int32} {X Y : Mem → Option (Int32 × Mem)} (e3 : m2 70 0 = k) (e4 : k = nI 0 → m2 108 0 = b) : (cal (F_X8_thrown N m2) fun r34 m33 => if r34 = k then (if k = (0 : Int32) then (gd (inb (0 : Int32) (alen 108)) <| if (lg_cmp (m33 108 (ix (0 : Int32))).toInt64 (b).toInt64) = (0 : Int32) then (X m33) else (Y m33)) else (X m33)) else (Y m33)) = X m2 := by
  have ht : F_X8_thrown N m2 = some (m2 70 0, m2) := rfl
  rw [cal_t ht, if_pos e3]
  by_cases c : k = nI 0
  · have e := e4 c
    have hx : ix (0 : Int32) = 0 := rfl
    rw [show (0 : Int32) = nI 0 from rfl] at hx ⊢
    rw [if_pos c, zg_in (show 0 < alen 108 by decide) (by decide), hx, e, lg_refl, if_pos (show (0 : Int32) = nI 0 from rfl)]
  · rw [show (0 : Int32) = nI 0 from rfl, if_neg c]
theorem law_finB {N : Nat} {m2 : Mem} {k b : Int32} {X Y : Mem → Option (Int32 × Mem)} {Z : Mem → Int32 → Int32 → Option (Int32 × Mem)} (hZ : ∀ m s0 s1, Z m s0 s1 = if (lg_cmp (s1).toInt64 (s0).toInt64) = (0 : Int32) then X m else Y m) (e3 : m2 70 0 = k) (e4 : k = nI 0 → m2 108 0 = if b = nI 0 then nI 0 else nI 1) : (cal (F_X8_thrown N m2) fun r34 m33 => if r34 = k then (if k = (0 : Int32) then (gd (inb (0 : Int32) (alen 108)) <| if b = (0 : Int32) then (Z m33 (0 : Int32) (m33 108 (ix (0 : Int32)))) else (Z m33 (1 : Int32) (m33 108 (ix (0 : Int32))))) else (X m33)) else (Y m33)) = X m2 := by
  have ht : F_X8_thrown N m2 = some (m2 70 0, m2) := rfl
  rw [cal_t ht, if_pos e3]
  by_cases c : k = nI 0
  · have e := e4 c
    have hx : ix (0 : Int32) = 0 := rfl
    rw [show (0 : Int32) = nI 0 from rfl] at hx ⊢
    rw [if_pos c, zg_in (show 0 < alen 108 by decide) (by decide), hx, e]
    by_cases cb : b = nI 0
    · rw [if_pos cb, if_pos cb, hZ, lg_refl, if_pos rfl]
    · rw [if_neg cb, if_neg cb, hZ, show (1 : Int32) = nI 1 from rfl, lg_refl, if_pos rfl]
  · rw [show (0 : Int32) = nI 0 from rfl, if_neg c]
theorem lb_type {N L i : Nat} {xs : Nat → Int32} {rec : Mem → Int32 → Option (Int32 × Mem)} {m : Mem} {Ms : List Ma} {w : List Nat} {ls : Ls} (hN : 2000000000000 < N) (hV : InV Ms w ls) (hC : InC m Ms w ls) (hM : InM m Ms w ls) (h1 : inb (nI i + (1 : Int32)) L = true) (h2 : inb (nI i + (2 : Int32)) L = true) (h3 : inb (nI i + (3 : Int32)) L = true) (h4 : inb (nI i + (4 : Int32)) L = true) (h5 : inb (nI i + (5 : Int32)) L = true) : ∃ m' Ms' w' ls', InV Ms' w' ls' ∧ InC m' Ms' w' ls' ∧ InM m' Ms' w' ls' ∧ (gd (inb ((nI i) + (1 : Int32)) L) <|
      cal (F_L_type N m (xs (ix ((nI i) + (1 : Int32))))) fun r5 m4 =>
      gd (inb ((nI i) + (1 : Int32)) L) <|
      cal (F_X8_type N m4 (xs (ix ((nI i) + (1 : Int32))))) fun r9 m8 =>
      cal (F_X8_thrown N m8) fun r12 m11 =>
      if r12 = r5 then (
        if r5 = (0 : Int32) then (
          gd (inb (0 : Int32) (alen 108)) <|
          if (lg_cmp (m11 108 (ix (0 : Int32))).toInt64 (r9).toInt64) = (0 : Int32) then (
            B_L_law_221 N rec m11 (nI i)
          ) else (
            some ((0 : Int32), m11)
          )
        ) else (
          B_L_law_221 N rec m11 (nI i)
        )
      ) else (
        some ((0 : Int32), m11)
      )) = rec m' (nI i + (6 : Int32)) := by
  obtain ⟨k, m1, b, m2, Ms', w', ls', e1, e2, e3, e4, v1, v2, v3⟩ := lw_type hN hV hC hM (xs (ix (nI i + (1 : Int32))))
  refine ⟨m2, Ms', w', ls', v1, v2, v3, ?_⟩
  rw [gd_t h1, cal_t e1, gd_t h1, cal_t e2]
  exact law_fin (X := fun m33 => rec m33 (nI i + (6 : Int32))) (Y := fun m33 => some ((0 : Int32), m33)) e3 e4
theorem lb_pair {N L i : Nat} {xs : Nat → Int32} {rec : Mem → Int32 → Option (Int32 × Mem)} {m : Mem} {Ms : List Ma} {w : List Nat} {ls : Ls} (hN : 2000000000000 < N) (hV : InV Ms w ls) (hC : InC m Ms w ls) (hM : InM m Ms w ls) (h1 : inb (nI i + (1 : Int32)) L = true) (h2 : inb (nI i + (2 : Int32)) L = true) (h3 : inb (nI i + (3 : Int32)) L = true) (h4 : inb (nI i + (4 : Int32)) L = true) (h5 : inb (nI i + (5 : Int32)) L = true) : ∃ m' Ms' w' ls', InV Ms' w' ls' ∧ InC m' Ms' w' ls' ∧ InM m' Ms' w' ls' ∧ (gd (inb ((nI i) + (1 : Int32)) L) <|
      gd (inb ((nI i) + (2 : Int32)) L) <|
      gd (inb ((nI i) + (3 : Int32)) L) <|
      cal (F_L_pair N m (xs (ix ((nI i) + (1 : Int32)))) (xs (ix ((nI i) + (2 : Int32)))) (xs (ix ((nI i) + (3 : Int32))))) fun r25 m24 =>
      gd (inb ((nI i) + (1 : Int32)) L) <|
      gd (inb ((nI i) + (2 : Int32)) L) <|
      gd (inb ((nI i) + (3 : Int32)) L) <|
      cal (F_X8_pair N m24 (xs (ix ((nI i) + (1 : Int32)))) (xs (ix ((nI i) + (2 : Int32)))) (xs (ix ((nI i) + (3 : Int32))))) fun r31 m30 =>
      cal (F_X8_thrown N m30) fun r34 m33 =>
      if r34 = r25 then (
        if r25 = (0 : Int32) then (
          gd (inb (0 : Int32) (alen 108)) <|
          if (lg_cmp (m33 108 (ix (0 : Int32))).toInt64 (r31).toInt64) = (0 : Int32) then (
            B_L_law_314 N rec m33 (nI i)
          ) else (
            some ((0 : Int32), m33)
          )
        ) else (
          B_L_law_314 N rec m33 (nI i)
        )
      ) else (
        some ((0 : Int32), m33)
      )) = rec m' (nI i + (6 : Int32)) := by
  obtain ⟨k, m1, b, m2, Ms', w', ls', e1, e2, e3, e4, v1, v2, v3⟩ := lw_pair hN hV hC hM (xs (ix (nI i + (1 : Int32)))) (xs (ix (nI i + (2 : Int32)))) (xs (ix (nI i + (3 : Int32))))
  refine ⟨m2, Ms', w', ls', v1, v2, v3, ?_⟩
  rw [gd_t h1, gd_t h2, gd_t h3, cal_t e1, gd_t h1, gd_t h2, gd_t h3, cal_t e2]
  exact law_fin (X := fun m33 => rec m33 (nI i + (6 : Int32))) (Y := fun m33 => some ((0 : Int32), m33)) e3 e4
theorem lb_word {N L i : Nat} {xs : Nat → Int32} {rec : Mem → Int32 → Option (Int32 × Mem)} {m : Mem} {Ms : List Ma} {w : List Nat} {ls : Ls} (hN : 2000000000000 < N) (hV : InV Ms w ls) (hC : InC m Ms w ls) (hM : InM m Ms w ls) (h1 : inb (nI i + (1 : Int32)) L = true) (h2 : inb (nI i + (2 : Int32)) L = true) (h3 : inb (nI i + (3 : Int32)) L = true) (h4 : inb (nI i + (4 : Int32)) L = true) (h5 : inb (nI i + (5 : Int32)) L = true) : ∃ m' Ms' w' ls', InV Ms' w' ls' ∧ InC m' Ms' w' ls' ∧ InM m' Ms' w' ls' ∧ (cal (F_L_word N m) fun r38 m37 =>
      cal (F_X8_word N m37) fun r41 m40 =>
      cal (F_X8_thrown N m40) fun r44 m43 =>
      if r44 = r38 then (
        if r38 = (0 : Int32) then (
          gd (inb (0 : Int32) (alen 108)) <|
          if (lg_cmp (m43 108 (ix (0 : Int32))).toInt64 (r41).toInt64) = (0 : Int32) then (
            B_L_law_358 N rec m43 (nI i)
          ) else (
            some ((0 : Int32), m43)
          )
        ) else (
          B_L_law_358 N rec m43 (nI i)
        )
      ) else (
        some ((0 : Int32), m43)
      )) = rec m' (nI i + (6 : Int32)) := by
  obtain ⟨k, m1, b, m2, Ms', w', ls', e1, e2, e3, e4, v1, v2, v3⟩ := lw_word hN hV hC hM 
  refine ⟨m2, Ms', w', ls', v1, v2, v3, ?_⟩
  rw [cal_t e1, cal_t e2]
  exact law_fin (X := fun m33 => rec m33 (nI i + (6 : Int32))) (Y := fun m33 => some ((0 : Int32), m33)) e3 e4
theorem lb_any {N L i : Nat} {xs : Nat → Int32} {rec : Mem → Int32 → Option (Int32 × Mem)} {m : Mem} {Ms : List Ma} {w : List Nat} {ls : Ls} (hN : 2000000000000 < N) (hV : InV Ms w ls) (hC : InC m Ms w ls) (hM : InM m Ms w ls) (h1 : inb (nI i + (1 : Int32)) L = true) (h2 : inb (nI i + (2 : Int32)) L = true) (h3 : inb (nI i + (3 : Int32)) L = true) (h4 : inb (nI i + (4 : Int32)) L = true) (h5 : inb (nI i + (5 : Int32)) L = true) : ∃ m' Ms' w' ls', InV Ms' w' ls' ∧ InC m' Ms' w' ls' ∧ InM m' Ms' w' ls' ∧ (cal (F_L_any N m) fun r48 m47 =>
      cal (F_X8_any N m47) fun r51 m50 =>
      cal (F_X8_thrown N m50) fun r54 m53 =>
      if r54 = r48 then (
        if r48 = (0 : Int32) then (
          gd (inb (0 : Int32) (alen 108)) <|
          if (lg_cmp (m53 108 (ix (0 : Int32))).toInt64 (r51).toInt64) = (0 : Int32) then (
            B_L_law_402 N rec m53 (nI i)
          ) else (
            some ((0 : Int32), m53)
          )
        ) else (
          B_L_law_402 N rec m53 (nI i)
        )
      ) else (
        some ((0 : Int32), m53)
      )) = rec m' (nI i + (6 : Int32)) := by
  obtain ⟨k, m1, b, m2, Ms', w', ls', e1, e2, e3, e4, v1, v2, v3⟩ := lw_any hN hV hC hM 
  refine ⟨m2, Ms', w', ls', v1, v2, v3, ?_⟩
  rw [cal_t e1, cal_t e2]
  exact law_fin (X := fun m33 => rec m33 (nI i + (6 : Int32))) (Y := fun m33 => some ((0 : Int32), m33)) e3 e4
theorem lb_join {N L i : Nat} {xs : Nat → Int32} {rec : Mem → Int32 → Option (Int32 × Mem)} {m : Mem} {Ms : List Ma} {w : List Nat} {ls : Ls} (hN : 2000000000000 < N) (hV : InV Ms w ls) (hC : InC m Ms w ls) (hM : InM m Ms w ls) (h1 : inb (nI i + (1 : Int32)) L = true) (h2 : inb (nI i + (2 : Int32)) L = true) (h3 : inb (nI i + (3 : Int32)) L = true) (h4 : inb (nI i + (4 : Int32)) L = true) (h5 : inb (nI i + (5 : Int32)) L = true) : ∃ m' Ms' w' ls', InV Ms' w' ls' ∧ InC m' Ms' w' ls' ∧ InM m' Ms' w' ls' ∧ (gd (inb ((nI i) + (1 : Int32)) L) <|
      gd (inb ((nI i) + (2 : Int32)) L) <|
      cal (F_L_join N m (xs (ix ((nI i) + (1 : Int32)))) (xs (ix ((nI i) + (2 : Int32))))) fun r60 m59 =>
      gd (inb ((nI i) + (1 : Int32)) L) <|
      gd (inb ((nI i) + (2 : Int32)) L) <|
      cal (F_X8_join N m59 (xs (ix ((nI i) + (1 : Int32)))) (xs (ix ((nI i) + (2 : Int32))))) fun r65 m64 =>
      cal (F_X8_thrown N m64) fun r68 m67 =>
      if r68 = r60 then (
        if r60 = (0 : Int32) then (
          gd (inb (0 : Int32) (alen 108)) <|
          if (lg_cmp (m67 108 (ix (0 : Int32))).toInt64 (r65).toInt64) = (0 : Int32) then (
            B_L_law_470 N rec m67 (nI i)
          ) else (
            some ((0 : Int32), m67)
          )
        ) else (
          B_L_law_470 N rec m67 (nI i)
        )
      ) else (
        some ((0 : Int32), m67)
      )) = rec m' (nI i + (6 : Int32)) := by
  obtain ⟨k, m1, b, m2, Ms', w', ls', e1, e2, e3, e4, v1, v2, v3⟩ := lw_join hN hV hC hM (xs (ix (nI i + (1 : Int32)))) (xs (ix (nI i + (2 : Int32))))
  refine ⟨m2, Ms', w', ls', v1, v2, v3, ?_⟩
  rw [gd_t h1, gd_t h2, cal_t e1, gd_t h1, gd_t h2, cal_t e2]
  exact law_fin (X := fun m33 => rec m33 (nI i + (6 : Int32))) (Y := fun m33 => some ((0 : Int32), m33)) e3 e4
theorem lb_unite {N L i : Nat} {xs : Nat → Int32} {rec : Mem → Int32 → Option (Int32 × Mem)} {m : Mem} {Ms : List Ma} {w : List Nat} {ls : Ls} (hN : 2000000000000 < N) (hV : InV Ms w ls) (hC : InC m Ms w ls) (hM : InM m Ms w ls) (h1 : inb (nI i + (1 : Int32)) L = true) (h2 : inb (nI i + (2 : Int32)) L = true) (h3 : inb (nI i + (3 : Int32)) L = true) (h4 : inb (nI i + (4 : Int32)) L = true) (h5 : inb (nI i + (5 : Int32)) L = true) : ∃ m' Ms' w' ls', InV Ms' w' ls' ∧ InC m' Ms' w' ls' ∧ InM m' Ms' w' ls' ∧ (gd (inb ((nI i) + (1 : Int32)) L) <|
      gd (inb ((nI i) + (2 : Int32)) L) <|
      cal (F_L_unite N m (xs (ix ((nI i) + (1 : Int32)))) (xs (ix ((nI i) + (2 : Int32))))) fun r74 m73 =>
      gd (inb ((nI i) + (1 : Int32)) L) <|
      gd (inb ((nI i) + (2 : Int32)) L) <|
      cal (F_X8_unite N m73 (xs (ix ((nI i) + (1 : Int32)))) (xs (ix ((nI i) + (2 : Int32))))) fun r79 m78 =>
      cal (F_X8_thrown N m78) fun r82 m81 =>
      if r82 = r74 then (
        if r74 = (0 : Int32) then (
          gd (inb (0 : Int32) (alen 108)) <|
          if (lg_cmp (m81 108 (ix (0 : Int32))).toInt64 (r79).toInt64) = (0 : Int32) then (
            B_L_law_538 N rec m81 (nI i)
          ) else (
            some ((0 : Int32), m81)
          )
        ) else (
          B_L_law_538 N rec m81 (nI i)
        )
      ) else (
        some ((0 : Int32), m81)
      )) = rec m' (nI i + (6 : Int32)) := by
  obtain ⟨k, m1, b, m2, Ms', w', ls', e1, e2, e3, e4, v1, v2, v3⟩ := lw_unite hN hV hC hM (xs (ix (nI i + (1 : Int32)))) (xs (ix (nI i + (2 : Int32))))
  refine ⟨m2, Ms', w', ls', v1, v2, v3, ?_⟩
  rw [gd_t h1, gd_t h2, cal_t e1, gd_t h1, gd_t h2, cal_t e2]
  exact law_fin (X := fun m33 => rec m33 (nI i + (6 : Int32))) (Y := fun m33 => some ((0 : Int32), m33)) e3 e4
theorem lb_repeat {N L i : Nat} {xs : Nat → Int32} {rec : Mem → Int32 → Option (Int32 × Mem)} {m : Mem} {Ms : List Ma} {w : List Nat} {ls : Ls} (hN : 2000000000000 < N) (hV : InV Ms w ls) (hC : InC m Ms w ls) (hM : InM m Ms w ls) (h1 : inb (nI i + (1 : Int32)) L = true) (h2 : inb (nI i + (2 : Int32)) L = true) (h3 : inb (nI i + (3 : Int32)) L = true) (h4 : inb (nI i + (4 : Int32)) L = true) (h5 : inb (nI i + (5 : Int32)) L = true) : ∃ m' Ms' w' ls', InV Ms' w' ls' ∧ InC m' Ms' w' ls' ∧ InM m' Ms' w' ls' ∧ (gd (inb ((nI i) + (1 : Int32)) L) <|
      cal (F_L_repeat N m (xs (ix ((nI i) + (1 : Int32))))) fun r87 m86 =>
      gd (inb ((nI i) + (1 : Int32)) L) <|
      cal (F_X8_repeat N m86 (xs (ix ((nI i) + (1 : Int32))))) fun r91 m90 =>
      cal (F_X8_thrown N m90) fun r94 m93 =>
      if r94 = r87 then (
        if r87 = (0 : Int32) then (
          gd (inb (0 : Int32) (alen 108)) <|
          if (lg_cmp (m93 108 (ix (0 : Int32))).toInt64 (r91).toInt64) = (0 : Int32) then (
            B_L_law_594 N rec m93 (nI i)
          ) else (
            some ((0 : Int32), m93)
          )
        ) else (
          B_L_law_594 N rec m93 (nI i)
        )
      ) else (
        some ((0 : Int32), m93)
      )) = rec m' (nI i + (6 : Int32)) := by
  obtain ⟨k, m1, b, m2, Ms', w', ls', e1, e2, e3, e4, v1, v2, v3⟩ := lw_repeat hN hV hC hM (xs (ix (nI i + (1 : Int32))))
  refine ⟨m2, Ms', w', ls', v1, v2, v3, ?_⟩
  rw [gd_t h1, cal_t e1, gd_t h1, cal_t e2]
  exact law_fin (X := fun m33 => rec m33 (nI i + (6 : Int32))) (Y := fun m33 => some ((0 : Int32), m33)) e3 e4
theorem lb_turn {N L i : Nat} {xs : Nat → Int32} {rec : Mem → Int32 → Option (Int32 × Mem)} {m : Mem} {Ms : List Ma} {w : List Nat} {ls : Ls} (hN : 2000000000000 < N) (hV : InV Ms w ls) (hC : InC m Ms w ls) (hM : InM m Ms w ls) (h1 : inb (nI i + (1 : Int32)) L = true) (h2 : inb (nI i + (2 : Int32)) L = true) (h3 : inb (nI i + (3 : Int32)) L = true) (h4 : inb (nI i + (4 : Int32)) L = true) (h5 : inb (nI i + (5 : Int32)) L = true) : ∃ m' Ms' w' ls', InV Ms' w' ls' ∧ InC m' Ms' w' ls' ∧ InM m' Ms' w' ls' ∧ (gd (inb ((nI i) + (1 : Int32)) L) <|
      cal (F_L_turn N m (xs (ix ((nI i) + (1 : Int32))))) fun r99 m98 =>
      gd (inb ((nI i) + (1 : Int32)) L) <|
      cal (F_X8_turn N m98 (xs (ix ((nI i) + (1 : Int32))))) fun r103 m102 =>
      cal (F_X8_thrown N m102) fun r106 m105 =>
      if r106 = r99 then (
        if r99 = (0 : Int32) then (
          gd (inb (0 : Int32) (alen 108)) <|
          if (lg_cmp (m105 108 (ix (0 : Int32))).toInt64 (r103).toInt64) = (0 : Int32) then (
            B_L_law_650 N rec m105 (nI i)
          ) else (
            some ((0 : Int32), m105)
          )
        ) else (
          B_L_law_650 N rec m105 (nI i)
        )
      ) else (
        some ((0 : Int32), m105)
      )) = rec m' (nI i + (6 : Int32)) := by
  obtain ⟨k, m1, b, m2, Ms', w', ls', e1, e2, e3, e4, v1, v2, v3⟩ := lw_turn hN hV hC hM (xs (ix (nI i + (1 : Int32))))
  refine ⟨m2, Ms', w', ls', v1, v2, v3, ?_⟩
  rw [gd_t h1, cal_t e1, gd_t h1, cal_t e2]
  exact law_fin (X := fun m33 => rec m33 (nI i + (6 : Int32))) (Y := fun m33 => some ((0 : Int32), m33)) e3 e4
theorem lb_compose {N L i : Nat} {xs : Nat → Int32} {rec : Mem → Int32 → Option (Int32 × Mem)} {m : Mem} {Ms : List Ma} {w : List Nat} {ls : Ls} (hN : 2000000000000 < N) (hV : InV Ms w ls) (hC : InC m Ms w ls) (hM : InM m Ms w ls) (h1 : inb (nI i + (1 : Int32)) L = true) (h2 : inb (nI i + (2 : Int32)) L = true) (h3 : inb (nI i + (3 : Int32)) L = true) (h4 : inb (nI i + (4 : Int32)) L = true) (h5 : inb (nI i + (5 : Int32)) L = true) : ∃ m' Ms' w' ls', InV Ms' w' ls' ∧ InC m' Ms' w' ls' ∧ InM m' Ms' w' ls' ∧ (gd (inb ((nI i) + (1 : Int32)) L) <|
      gd (inb ((nI i) + (2 : Int32)) L) <|
      cal (F_L_compose N m (xs (ix ((nI i) + (1 : Int32)))) (xs (ix ((nI i) + (2 : Int32))))) fun r112 m111 =>
      gd (inb ((nI i) + (1 : Int32)) L) <|
      gd (inb ((nI i) + (2 : Int32)) L) <|
      cal (F_X8_compose N m111 (xs (ix ((nI i) + (1 : Int32)))) (xs (ix ((nI i) + (2 : Int32))))) fun r117 m116 =>
      cal (F_X8_thrown N m116) fun r120 m119 =>
      if r120 = r112 then (
        if r112 = (0 : Int32) then (
          gd (inb (0 : Int32) (alen 108)) <|
          if (lg_cmp (m119 108 (ix (0 : Int32))).toInt64 (r117).toInt64) = (0 : Int32) then (
            B_L_law_718 N rec m119 (nI i)
          ) else (
            some ((0 : Int32), m119)
          )
        ) else (
          B_L_law_718 N rec m119 (nI i)
        )
      ) else (
        some ((0 : Int32), m119)
      )) = rec m' (nI i + (6 : Int32)) := by
  obtain ⟨k, m1, b, m2, Ms', w', ls', e1, e2, e3, e4, v1, v2, v3⟩ := lw_compose hN hV hC hM (xs (ix (nI i + (1 : Int32)))) (xs (ix (nI i + (2 : Int32))))
  refine ⟨m2, Ms', w', ls', v1, v2, v3, ?_⟩
  rw [gd_t h1, gd_t h2, cal_t e1, gd_t h1, gd_t h2, cal_t e2]
  exact law_fin (X := fun m33 => rec m33 (nI i + (6 : Int32))) (Y := fun m33 => some ((0 : Int32), m33)) e3 e4
theorem lb_side {N L i : Nat} {xs : Nat → Int32} {rec : Mem → Int32 → Option (Int32 × Mem)} {m : Mem} {Ms : List Ma} {w : List Nat} {ls : Ls} (hN : 2000000000000 < N) (hV : InV Ms w ls) (hC : InC m Ms w ls) (hM : InM m Ms w ls) (h1 : inb (nI i + (1 : Int32)) L = true) (h2 : inb (nI i + (2 : Int32)) L = true) (h3 : inb (nI i + (3 : Int32)) L = true) (h4 : inb (nI i + (4 : Int32)) L = true) (h5 : inb (nI i + (5 : Int32)) L = true) : ∃ m' Ms' w' ls', InV Ms' w' ls' ∧ InC m' Ms' w' ls' ∧ InM m' Ms' w' ls' ∧ (gd (inb ((nI i) + (1 : Int32)) L) <|
      gd (inb ((nI i) + (2 : Int32)) L) <|
      if (xs (ix ((nI i) + (2 : Int32)))) = (0 : Int32) then (
        B_L_law_742 N L xs rec m (nI i) (0 : Int32) (xs (ix ((nI i) + (1 : Int32))))
      ) else (
        B_L_law_742 N L xs rec m (nI i) (1 : Int32) (xs (ix ((nI i) + (1 : Int32))))
      )) = rec m' (nI i + (6 : Int32)) := by
  by_cases hz : (xs (ix (nI i + (2 : Int32)))) = (0 : Int32)
  · obtain ⟨k, m1, b, m2, Ms', w', ls', e1, e2, e3, e4, v1, v2, v3⟩ := lw_side hN hV hC hM (xs (ix (nI i + (1 : Int32)))) false
    have e1 : F_L_side N m (xs (ix (nI i + (1 : Int32)))) (0 : Int32) = some (k, m1) := e1
    have e2 : F_X8_side N m1 (xs (ix (nI i + (1 : Int32)))) (0 : Int32) = some (b, m2) := e2
    refine ⟨m2, Ms', w', ls', v1, v2, v3, ?_⟩
    rw [gd_t h1, gd_t h2, if_pos hz]
    unfold B_L_law_742
    rw [cal_t e1, gd_t h1, gd_t h2, if_pos hz]
    unfold B_L_law_769
    rw [cal_t e2]
    exact law_fin (X := fun m33 => rec m33 (nI i + (6 : Int32))) (Y := fun m33 => some ((0 : Int32), m33)) e3 e4
  · obtain ⟨k, m1, b, m2, Ms', w', ls', e1, e2, e3, e4, v1, v2, v3⟩ := lw_side hN hV hC hM (xs (ix (nI i + (1 : Int32)))) true
    have e1 : F_L_side N m (xs (ix (nI i + (1 : Int32)))) (1 : Int32) = some (k, m1) := e1
    have e2 : F_X8_side N m1 (xs (ix (nI i + (1 : Int32)))) (1 : Int32) = some (b, m2) := e2
    refine ⟨m2, Ms', w', ls', v1, v2, v3, ?_⟩
    rw [gd_t h1, gd_t h2, if_neg hz]
    unfold B_L_law_742
    rw [cal_t e1, gd_t h1, gd_t h2, if_neg hz]
    unfold B_L_law_769
    rw [cal_t e2]
    exact law_fin (X := fun m33 => rec m33 (nI i + (6 : Int32))) (Y := fun m33 => some ((0 : Int32), m33)) e3 e4
theorem lb_least {N L i : Nat} {xs : Nat → Int32} {rec : Mem → Int32 → Option (Int32 × Mem)} {m : Mem} {Ms : List Ma} {w : List Nat} {ls : Ls} (hN : 2000000000000 < N) (hV : InV Ms w ls) (hC : InC m Ms w ls) (hM : InM m Ms w ls) (h1 : inb (nI i + (1 : Int32)) L = true) (h2 : inb (nI i + (2 : Int32)) L = true) (h3 : inb (nI i + (3 : Int32)) L = true) (h4 : inb (nI i + (4 : Int32)) L = true) (h5 : inb (nI i + (5 : Int32)) L = true) : ∃ m' Ms' w' ls', InV Ms' w' ls' ∧ InC m' Ms' w' ls' ∧ InM m' Ms' w' ls' ∧ (gd (inb ((nI i) + (1 : Int32)) L) <|
      cal (F_L_least N m (xs (ix ((nI i) + (1 : Int32))))) fun r127 m126 =>
      gd (inb ((nI i) + (1 : Int32)) L) <|
      cal (F_X8_least N m126 (xs (ix ((nI i) + (1 : Int32))))) fun r131 m130 =>
      cal (F_X8_thrown N m130) fun r134 m133 =>
      if r134 = r127 then (
        if r127 = (0 : Int32) then (
          gd (inb (0 : Int32) (alen 108)) <|
          if (lg_cmp (m133 108 (ix (0 : Int32))).toInt64 (r131).toInt64) = (0 : Int32) then (
            B_L_law_858 N rec m133 (nI i)
          ) else (
            some ((0 : Int32), m133)
          )
        ) else (
          B_L_law_858 N rec m133 (nI i)
        )
      ) else (
        some ((0 : Int32), m133)
      )) = rec m' (nI i + (6 : Int32)) := by
  obtain ⟨k, m1, b, m2, Ms', w', ls', e1, e2, e3, e4, v1, v2, v3⟩ := lw_least hN hV hC hM (xs (ix (nI i + (1 : Int32))))
  refine ⟨m2, Ms', w', ls', v1, v2, v3, ?_⟩
  rw [gd_t h1, cal_t e1, gd_t h1, cal_t e2]
  exact law_fin (X := fun m33 => rec m33 (nI i + (6 : Int32))) (Y := fun m33 => some ((0 : Int32), m33)) e3 e4
theorem lb_meet {N L i : Nat} {xs : Nat → Int32} {rec : Mem → Int32 → Option (Int32 × Mem)} {m : Mem} {Ms : List Ma} {w : List Nat} {ls : Ls} (hN : 2000000000000 < N) (hV : InV Ms w ls) (hC : InC m Ms w ls) (hM : InM m Ms w ls) (h1 : inb (nI i + (1 : Int32)) L = true) (h2 : inb (nI i + (2 : Int32)) L = true) (h3 : inb (nI i + (3 : Int32)) L = true) (h4 : inb (nI i + (4 : Int32)) L = true) (h5 : inb (nI i + (5 : Int32)) L = true) : ∃ m' Ms' w' ls', InV Ms' w' ls' ∧ InC m' Ms' w' ls' ∧ InM m' Ms' w' ls' ∧ (gd (inb ((nI i) + (1 : Int32)) L) <|
      gd (inb ((nI i) + (2 : Int32)) L) <|
      gd (inb ((nI i) + (3 : Int32)) L) <|
      if (xs (ix ((nI i) + (3 : Int32)))) = (0 : Int32) then (
        B_L_law_888 N L xs rec m (nI i) (0 : Int32) (xs (ix ((nI i) + (2 : Int32)))) (xs (ix ((nI i) + (1 : Int32))))
      ) else (
        B_L_law_888 N L xs rec m (nI i) (1 : Int32) (xs (ix ((nI i) + (2 : Int32)))) (xs (ix ((nI i) + (1 : Int32))))
      )) = rec m' (nI i + (6 : Int32)) := by
  by_cases hz : (xs (ix (nI i + (3 : Int32)))) = (0 : Int32)
  · obtain ⟨k, m1, b, m2, Ms', w', ls', e1, e2, e3, e4, v1, v2, v3⟩ := lw_meet hN hV hC hM (xs (ix (nI i + (1 : Int32)))) (xs (ix (nI i + (2 : Int32)))) false
    have e1 : F_L_meet N m (xs (ix (nI i + (1 : Int32)))) (xs (ix (nI i + (2 : Int32)))) (0 : Int32) = some (k, m1) := e1
    have e2 : F_X8_meet N m1 (xs (ix (nI i + (1 : Int32)))) (xs (ix (nI i + (2 : Int32)))) (0 : Int32) = some (b, m2) := e2
    refine ⟨m2, Ms', w', ls', v1, v2, v3, ?_⟩
    rw [gd_t h1, gd_t h2, gd_t h3, if_pos hz]
    unfold B_L_law_888
    rw [cal_t e1, gd_t h1, gd_t h2, gd_t h3, if_pos hz]
    unfold B_L_law_921
    rw [cal_t e2]
    exact law_fin (X := fun m33 => rec m33 (nI i + (6 : Int32))) (Y := fun m33 => some ((0 : Int32), m33)) e3 e4
  · obtain ⟨k, m1, b, m2, Ms', w', ls', e1, e2, e3, e4, v1, v2, v3⟩ := lw_meet hN hV hC hM (xs (ix (nI i + (1 : Int32)))) (xs (ix (nI i + (2 : Int32)))) true
    have e1 : F_L_meet N m (xs (ix (nI i + (1 : Int32)))) (xs (ix (nI i + (2 : Int32)))) (1 : Int32) = some (k, m1) := e1
    have e2 : F_X8_meet N m1 (xs (ix (nI i + (1 : Int32)))) (xs (ix (nI i + (2 : Int32)))) (1 : Int32) = some (b, m2) := e2
    refine ⟨m2, Ms', w', ls', v1, v2, v3, ?_⟩
    rw [gd_t h1, gd_t h2, gd_t h3, if_neg hz]
    unfold B_L_law_888
    rw [cal_t e1, gd_t h1, gd_t h2, gd_t h3, if_neg hz]
    unfold B_L_law_921
    rw [cal_t e2]
    exact law_fin (X := fun m33 => rec m33 (nI i + (6 : Int32))) (Y := fun m33 => some ((0 : Int32), m33)) e3 e4
theorem lb_rule {N L i : Nat} {xs : Nat → Int32} {rec : Mem → Int32 → Option (Int32 × Mem)} {m : Mem} {Ms : List Ma} {w : List Nat} {ls : Ls} (hN : 2000000000000 < N) (hV : InV Ms w ls) (hC : InC m Ms w ls) (hM : InM m Ms w ls) (h1 : inb (nI i + (1 : Int32)) L = true) (h2 : inb (nI i + (2 : Int32)) L = true) (h3 : inb (nI i + (3 : Int32)) L = true) (h4 : inb (nI i + (4 : Int32)) L = true) (h5 : inb (nI i + (5 : Int32)) L = true) : ∃ m' Ms' w' ls', InV Ms' w' ls' ∧ InC m' Ms' w' ls' ∧ InM m' Ms' w' ls' ∧ (gd (inb ((nI i) + (1 : Int32)) L) <|
      gd (inb ((nI i) + (2 : Int32)) L) <|
      gd (inb ((nI i) + (3 : Int32)) L) <|
      gd (inb ((nI i) + (4 : Int32)) L) <|
      gd (inb ((nI i) + (5 : Int32)) L) <|
      if (xs (ix ((nI i) + (5 : Int32)))) = (0 : Int32) then (
        B_L_law_996 N L xs rec m (nI i) (0 : Int32) (xs (ix ((nI i) + (4 : Int32)))) (xs (ix ((nI i) + (3 : Int32)))) (xs (ix ((nI i) + (2 : Int32)))) (xs (ix ((nI i) + (1 : Int32))))
      ) else (
        B_L_law_996 N L xs rec m (nI i) (1 : Int32) (xs (ix ((nI i) + (4 : Int32)))) (xs (ix ((nI i) + (3 : Int32)))) (xs (ix ((nI i) + (2 : Int32)))) (xs (ix ((nI i) + (1 : Int32))))
      )) = rec m' (nI i + (6 : Int32)) := by
  by_cases hz : (xs (ix (nI i + (5 : Int32)))) = (0 : Int32)
  · obtain ⟨k, m1, b, m2, Ms', w', ls', e1, e2, e3, e4, v1, v2, v3⟩ := lw_rule hN hV hC hM (xs (ix (nI i + (1 : Int32)))) (xs (ix (nI i + (2 : Int32)))) (xs (ix (nI i + (3 : Int32)))) (xs (ix (nI i + (4 : Int32)))) false
    have e1 : F_L_rule N m (xs (ix (nI i + (1 : Int32)))) (xs (ix (nI i + (2 : Int32)))) (xs (ix (nI i + (3 : Int32)))) (xs (ix (nI i + (4 : Int32)))) (0 : Int32) = some (k, m1) := e1
    have e2 : F_X8_rule N m1 (xs (ix (nI i + (1 : Int32)))) (xs (ix (nI i + (2 : Int32)))) (xs (ix (nI i + (3 : Int32)))) (xs (ix (nI i + (4 : Int32)))) (0 : Int32) = some (b, m2) := e2
    refine ⟨m2, Ms', w', ls', v1, v2, v3, ?_⟩
    rw [gd_t h1, gd_t h2, gd_t h3, gd_t h4, gd_t h5, if_pos hz]
    unfold B_L_law_996
    rw [cal_t e1, gd_t h1, gd_t h2, gd_t h3, gd_t h4, gd_t h5, if_pos hz]
    unfold B_L_law_1041
    rw [cal_t e2]
    exact law_fin (X := fun m33 => rec m33 (nI i + (6 : Int32))) (Y := fun m33 => some ((0 : Int32), m33)) e3 e4
  · obtain ⟨k, m1, b, m2, Ms', w', ls', e1, e2, e3, e4, v1, v2, v3⟩ := lw_rule hN hV hC hM (xs (ix (nI i + (1 : Int32)))) (xs (ix (nI i + (2 : Int32)))) (xs (ix (nI i + (3 : Int32)))) (xs (ix (nI i + (4 : Int32)))) true
    have e1 : F_L_rule N m (xs (ix (nI i + (1 : Int32)))) (xs (ix (nI i + (2 : Int32)))) (xs (ix (nI i + (3 : Int32)))) (xs (ix (nI i + (4 : Int32)))) (1 : Int32) = some (k, m1) := e1
    have e2 : F_X8_rule N m1 (xs (ix (nI i + (1 : Int32)))) (xs (ix (nI i + (2 : Int32)))) (xs (ix (nI i + (3 : Int32)))) (xs (ix (nI i + (4 : Int32)))) (1 : Int32) = some (b, m2) := e2
    refine ⟨m2, Ms', w', ls', v1, v2, v3, ?_⟩
    rw [gd_t h1, gd_t h2, gd_t h3, gd_t h4, gd_t h5, if_neg hz]
    unfold B_L_law_996
    rw [cal_t e1, gd_t h1, gd_t h2, gd_t h3, gd_t h4, gd_t h5, if_neg hz]
    unfold B_L_law_1041
    rw [cal_t e2]
    exact law_fin (X := fun m33 => rec m33 (nI i + (6 : Int32))) (Y := fun m33 => some ((0 : Int32), m33)) e3 e4
theorem lb_size {N L i : Nat} {xs : Nat → Int32} {rec : Mem → Int32 → Option (Int32 × Mem)} {m : Mem} {Ms : List Ma} {w : List Nat} {ls : Ls} (hN : 2000000000000 < N) (hV : InV Ms w ls) (hC : InC m Ms w ls) (hM : InM m Ms w ls) (h1 : inb (nI i + (1 : Int32)) L = true) (h2 : inb (nI i + (2 : Int32)) L = true) (h3 : inb (nI i + (3 : Int32)) L = true) (h4 : inb (nI i + (4 : Int32)) L = true) (h5 : inb (nI i + (5 : Int32)) L = true) : ∃ m' Ms' w' ls', InV Ms' w' ls' ∧ InC m' Ms' w' ls' ∧ InM m' Ms' w' ls' ∧ (gd (inb ((nI i) + (1 : Int32)) L) <|
      cal (F_L_size N m (xs (ix ((nI i) + (1 : Int32))))) fun r147 m146 =>
      gd (inb ((nI i) + (1 : Int32)) L) <|
      cal (F_X8_size N m146 (xs (ix ((nI i) + (1 : Int32))))) fun r151 m150 =>
      cal (F_X8_thrown N m150) fun r154 m153 =>
      if r154 = r147 then (
        if r147 = (0 : Int32) then (
          gd (inb (0 : Int32) (alen 108)) <|
          if (lg_cmp (m153 108 (ix (0 : Int32))).toInt64 (r151).toInt64) = (0 : Int32) then (
            B_L_law_1130 N rec m153 (nI i)
          ) else (
            some ((0 : Int32), m153)
          )
        ) else (
          B_L_law_1130 N rec m153 (nI i)
        )
      ) else (
        some ((0 : Int32), m153)
      )) = rec m' (nI i + (6 : Int32)) := by
  obtain ⟨k, m1, b, m2, Ms', w', ls', e1, e2, e3, e4, v1, v2, v3⟩ := lw_size hN hV hC hM (xs (ix (nI i + (1 : Int32))))
  refine ⟨m2, Ms', w', ls', v1, v2, v3, ?_⟩
  rw [gd_t h1, cal_t e1, gd_t h1, cal_t e2]
  exact law_fin (X := fun m33 => rec m33 (nI i + (6 : Int32))) (Y := fun m33 => some ((0 : Int32), m33)) e3 e4
theorem lb_isEnd {N L i : Nat} {xs : Nat → Int32} {rec : Mem → Int32 → Option (Int32 × Mem)} {m : Mem} {Ms : List Ma} {w : List Nat} {ls : Ls} (hN : 2000000000000 < N) (hV : InV Ms w ls) (hC : InC m Ms w ls) (hM : InM m Ms w ls) (h1 : inb (nI i + (1 : Int32)) L = true) (h2 : inb (nI i + (2 : Int32)) L = true) (h3 : inb (nI i + (3 : Int32)) L = true) (h4 : inb (nI i + (4 : Int32)) L = true) (h5 : inb (nI i + (5 : Int32)) L = true) : ∃ m' Ms' w' ls', InV Ms' w' ls' ∧ InC m' Ms' w' ls' ∧ InM m' Ms' w' ls' ∧ (gd (inb ((nI i) + (1 : Int32)) L) <|
      gd (inb ((nI i) + (2 : Int32)) L) <|
      cal (F_L_isEnd N m (xs (ix ((nI i) + (1 : Int32)))) (xs (ix ((nI i) + (2 : Int32))))) fun r160 m159 =>
      gd (inb ((nI i) + (1 : Int32)) L) <|
      gd (inb ((nI i) + (2 : Int32)) L) <|
      cal (F_X8_isEnd N m159 (xs (ix ((nI i) + (1 : Int32)))) (xs (ix ((nI i) + (2 : Int32))))) fun r165 m164 =>
      cal (F_X8_thrown N m164) fun r168 m167 =>
      if r168 = r160 then (
        if r160 = (0 : Int32) then (
          gd (inb (0 : Int32) (alen 108)) <|
          if r165 = (0 : Int32) then (
            B_L_law_1199 N rec m167 (nI i) (0 : Int32) (m167 108 (ix (0 : Int32)))
          ) else (
            B_L_law_1199 N rec m167 (nI i) (1 : Int32) (m167 108 (ix (0 : Int32)))
          )
        ) else (
          B_L_law_1205 N rec m167 (nI i)
        )
      ) else (
        some ((0 : Int32), m167)
      )) = rec m' (nI i + (6 : Int32)) := by
  obtain ⟨k, m1, b, m2, Ms', w', ls', e1, e2, e3, e4, v1, v2, v3⟩ := lw_isEnd hN hV hC hM (xs (ix (nI i + (1 : Int32)))) (xs (ix (nI i + (2 : Int32))))
  refine ⟨m2, Ms', w', ls', v1, v2, v3, ?_⟩
  rw [gd_t h1, gd_t h2, cal_t e1, gd_t h1, gd_t h2, cal_t e2]
  exact law_finB (Z := fun m33 s0 s1 => B_L_law_1199 N rec m33 (nI i) s0 s1) (X := fun m33 => rec m33 (nI i + (6 : Int32))) (Y := fun m33 => some ((0 : Int32), m33)) (fun _ _ _ => rfl) e3 e4
theorem lb_arc {N L i : Nat} {xs : Nat → Int32} {rec : Mem → Int32 → Option (Int32 × Mem)} {m : Mem} {Ms : List Ma} {w : List Nat} {ls : Ls} (hN : 2000000000000 < N) (hV : InV Ms w ls) (hC : InC m Ms w ls) (hM : InM m Ms w ls) (h1 : inb (nI i + (1 : Int32)) L = true) (h2 : inb (nI i + (2 : Int32)) L = true) (h3 : inb (nI i + (3 : Int32)) L = true) (h4 : inb (nI i + (4 : Int32)) L = true) (h5 : inb (nI i + (5 : Int32)) L = true) : ∃ m' Ms' w' ls', InV Ms' w' ls' ∧ InC m' Ms' w' ls' ∧ InM m' Ms' w' ls' ∧ (gd (inb ((nI i) + (1 : Int32)) L) <|
      gd (inb ((nI i) + (2 : Int32)) L) <|
      gd (inb ((nI i) + (3 : Int32)) L) <|
      cal (F_L_arc N m (xs (ix ((nI i) + (1 : Int32)))) (xs (ix ((nI i) + (2 : Int32)))) (xs (ix ((nI i) + (3 : Int32))))) fun r175 m174 =>
      gd (inb ((nI i) + (1 : Int32)) L) <|
      gd (inb ((nI i) + (2 : Int32)) L) <|
      gd (inb ((nI i) + (3 : Int32)) L) <|
      cal (F_X8_arc N m174 (xs (ix ((nI i) + (1 : Int32)))) (xs (ix ((nI i) + (2 : Int32)))) (xs (ix ((nI i) + (3 : Int32))))) fun r181 m180 =>
      cal (F_X8_thrown N m180) fun r184 m183 =>
      if r184 = r175 then (
        if r175 = (0 : Int32) then (
          gd (inb (0 : Int32) (alen 108)) <|
          if (lg_cmp (m183 108 (ix (0 : Int32))).toInt64 (r181).toInt64) = (0 : Int32) then (
            B_L_law_1285 N rec m183 (nI i)
          ) else (
            some ((0 : Int32), m183)
          )
        ) else (
          B_L_law_1285 N rec m183 (nI i)
        )
      ) else (
        some ((0 : Int32), m183)
      )) = rec m' (nI i + (6 : Int32)) := by
  obtain ⟨k, m1, b, m2, Ms', w', ls', e1, e2, e3, e4, v1, v2, v3⟩ := lw_arc hN hV hC hM (xs (ix (nI i + (1 : Int32)))) (xs (ix (nI i + (2 : Int32)))) (xs (ix (nI i + (3 : Int32))))
  refine ⟨m2, Ms', w', ls', v1, v2, v3, ?_⟩
  rw [gd_t h1, gd_t h2, gd_t h3, cal_t e1, gd_t h1, gd_t h2, gd_t h3, cal_t e2]
  exact law_fin (X := fun m33 => rec m33 (nI i + (6 : Int32))) (Y := fun m33 => some ((0 : Int32), m33)) e3 e4
theorem lb_isPlain {N L i : Nat} {xs : Nat → Int32} {rec : Mem → Int32 → Option (Int32 × Mem)} {m : Mem} {Ms : List Ma} {w : List Nat} {ls : Ls} (hN : 2000000000000 < N) (hV : InV Ms w ls) (hC : InC m Ms w ls) (hM : InM m Ms w ls) (h1 : inb (nI i + (1 : Int32)) L = true) (h2 : inb (nI i + (2 : Int32)) L = true) (h3 : inb (nI i + (3 : Int32)) L = true) (h4 : inb (nI i + (4 : Int32)) L = true) (h5 : inb (nI i + (5 : Int32)) L = true) : ∃ m' Ms' w' ls', InV Ms' w' ls' ∧ InC m' Ms' w' ls' ∧ InM m' Ms' w' ls' ∧ (gd (inb ((nI i) + (1 : Int32)) L) <|
      cal (F_L_isPlain N m (xs (ix ((nI i) + (1 : Int32))))) fun r189 m188 =>
      gd (inb ((nI i) + (1 : Int32)) L) <|
      cal (F_X8_isPlain N m188 (xs (ix ((nI i) + (1 : Int32))))) fun r193 m192 =>
      cal (F_X8_thrown N m192) fun r196 m195 =>
      if r196 = r189 then (
        if r189 = (0 : Int32) then (
          gd (inb (0 : Int32) (alen 108)) <|
          if r193 = (0 : Int32) then (
            B_L_law_1342 N rec m195 (nI i) (0 : Int32) (m195 108 (ix (0 : Int32)))
          ) else (
            B_L_law_1342 N rec m195 (nI i) (1 : Int32) (m195 108 (ix (0 : Int32)))
          )
        ) else (
          B_L_law_1348 N rec m195 (nI i)
        )
      ) else (
        some ((0 : Int32), m195)
      )) = rec m' (nI i + (6 : Int32)) := by
  obtain ⟨k, m1, b, m2, Ms', w', ls', e1, e2, e3, e4, v1, v2, v3⟩ := lw_isPlain hN hV hC hM (xs (ix (nI i + (1 : Int32))))
  refine ⟨m2, Ms', w', ls', v1, v2, v3, ?_⟩
  rw [gd_t h1, cal_t e1, gd_t h1, cal_t e2]
  exact law_finB (Z := fun m33 s0 s1 => B_L_law_1342 N rec m33 (nI i) s0 s1) (X := fun m33 => rec m33 (nI i + (6 : Int32))) (Y := fun m33 => some ((0 : Int32), m33)) (fun _ _ _ => rfl) e3 e4
theorem lb_answer {N L i : Nat} {xs : Nat → Int32} {rec : Mem → Int32 → Option (Int32 × Mem)} {m : Mem} {Ms : List Ma} {w : List Nat} {ls : Ls} (hN : 2000000000000 < N) (hV : InV Ms w ls) (hC : InC m Ms w ls) (hM : InM m Ms w ls) (h1 : inb (nI i + (1 : Int32)) L = true) (h2 : inb (nI i + (2 : Int32)) L = true) (h3 : inb (nI i + (3 : Int32)) L = true) (h4 : inb (nI i + (4 : Int32)) L = true) (h5 : inb (nI i + (5 : Int32)) L = true) : ∃ m' Ms' w' ls', InV Ms' w' ls' ∧ InC m' Ms' w' ls' ∧ InM m' Ms' w' ls' ∧ (gd (inb ((nI i) + (1 : Int32)) L) <|
      gd (inb ((nI i) + (2 : Int32)) L) <|
      if (xs (ix ((nI i) + (2 : Int32)))) = (0 : Int32) then (
        B_L_law_1372 N L xs rec m (nI i) (0 : Int32) (xs (ix ((nI i) + (1 : Int32))))
      ) else (
        B_L_law_1372 N L xs rec m (nI i) (1 : Int32) (xs (ix ((nI i) + (1 : Int32))))
      )) = rec m' (nI i + (6 : Int32)) := by
  by_cases hz : (xs (ix (nI i + (2 : Int32)))) = (0 : Int32)
  · obtain ⟨k, m1, b, m2, Ms', w', ls', e1, e2, e3, e4, v1, v2, v3⟩ := lw_answer hN hV hC hM (xs (ix (nI i + (1 : Int32)))) false (xs (ix (nI i + (3 : Int32)))) (xs (ix (nI i + (4 : Int32))))
    have e1 : F_L_answer N m (xs (ix (nI i + (1 : Int32)))) (0 : Int32) (xs (ix (nI i + (3 : Int32)))) (xs (ix (nI i + (4 : Int32)))) = some (k, m1) := e1
    have e2 : F_X8_answer N m1 (xs (ix (nI i + (1 : Int32)))) (0 : Int32) (xs (ix (nI i + (3 : Int32)))) (xs (ix (nI i + (4 : Int32)))) = some (b, m2) := e2
    refine ⟨m2, Ms', w', ls', v1, v2, v3, ?_⟩
    rw [gd_t h1, gd_t h2, if_pos hz]
    unfold B_L_law_1372
    rw [gd_t h3, gd_t h4, cal_t e1, gd_t h1, gd_t h2, if_pos hz]
    unfold B_L_law_1411
    rw [gd_t h3, gd_t h4, cal_t e2]
    exact law_fin (X := fun m33 => rec m33 (nI i + (6 : Int32))) (Y := fun m33 => some ((0 : Int32), m33)) e3 e4
  · obtain ⟨k, m1, b, m2, Ms', w', ls', e1, e2, e3, e4, v1, v2, v3⟩ := lw_answer hN hV hC hM (xs (ix (nI i + (1 : Int32)))) true (xs (ix (nI i + (3 : Int32)))) (xs (ix (nI i + (4 : Int32))))
    have e1 : F_L_answer N m (xs (ix (nI i + (1 : Int32)))) (1 : Int32) (xs (ix (nI i + (3 : Int32)))) (xs (ix (nI i + (4 : Int32)))) = some (k, m1) := e1
    have e2 : F_X8_answer N m1 (xs (ix (nI i + (1 : Int32)))) (1 : Int32) (xs (ix (nI i + (3 : Int32)))) (xs (ix (nI i + (4 : Int32)))) = some (b, m2) := e2
    refine ⟨m2, Ms', w', ls', v1, v2, v3, ?_⟩
    rw [gd_t h1, gd_t h2, if_neg hz]
    unfold B_L_law_1372
    rw [gd_t h3, gd_t h4, cal_t e1, gd_t h1, gd_t h2, if_neg hz]
    unfold B_L_law_1411
    rw [gd_t h3, gd_t h4, cal_t e2]
    exact law_fin (X := fun m33 => rec m33 (nI i + (6 : Int32))) (Y := fun m33 => some ((0 : Int32), m33)) e3 e4
theorem lb_answers {N L i : Nat} {xs : Nat → Int32} {rec : Mem → Int32 → Option (Int32 × Mem)} {m : Mem} {Ms : List Ma} {w : List Nat} {ls : Ls} (hN : 2000000000000 < N) (hV : InV Ms w ls) (hC : InC m Ms w ls) (hM : InM m Ms w ls) (h1 : inb (nI i + (1 : Int32)) L = true) (h2 : inb (nI i + (2 : Int32)) L = true) (h3 : inb (nI i + (3 : Int32)) L = true) (h4 : inb (nI i + (4 : Int32)) L = true) (h5 : inb (nI i + (5 : Int32)) L = true) : ∃ m' Ms' w' ls', InV Ms' w' ls' ∧ InC m' Ms' w' ls' ∧ InM m' Ms' w' ls' ∧ (gd (inb ((nI i) + (1 : Int32)) L) <|
      gd (inb ((nI i) + (2 : Int32)) L) <|
      if (xs (ix ((nI i) + (2 : Int32)))) = (0 : Int32) then (
        B_L_law_1480 N L xs rec m (nI i) (0 : Int32) (xs (ix ((nI i) + (1 : Int32))))
      ) else (
        B_L_law_1480 N L xs rec m (nI i) (1 : Int32) (xs (ix ((nI i) + (1 : Int32))))
      )) = rec m' (nI i + (6 : Int32)) := by
  by_cases hz : (xs (ix (nI i + (2 : Int32)))) = (0 : Int32)
  · obtain ⟨k, m1, b, m2, Ms', w', ls', e1, e2, e3, e4, v1, v2, v3⟩ := lw_answers hN hV hC hM (xs (ix (nI i + (1 : Int32)))) false
    have e1 : F_L_answers N m (xs (ix (nI i + (1 : Int32)))) (0 : Int32) = some (k, m1) := e1
    have e2 : F_X8_answers N m1 (xs (ix (nI i + (1 : Int32)))) (0 : Int32) = some (b, m2) := e2
    refine ⟨m2, Ms', w', ls', v1, v2, v3, ?_⟩
    rw [gd_t h1, gd_t h2, if_pos hz]
    unfold B_L_law_1480
    rw [cal_t e1, gd_t h1, gd_t h2, if_pos hz]
    unfold B_L_law_1507
    rw [cal_t e2]
    exact law_fin (X := fun m33 => rec m33 (nI i + (6 : Int32))) (Y := fun m33 => some ((0 : Int32), m33)) e3 e4
  · obtain ⟨k, m1, b, m2, Ms', w', ls', e1, e2, e3, e4, v1, v2, v3⟩ := lw_answers hN hV hC hM (xs (ix (nI i + (1 : Int32)))) true
    have e1 : F_L_answers N m (xs (ix (nI i + (1 : Int32)))) (1 : Int32) = some (k, m1) := e1
    have e2 : F_X8_answers N m1 (xs (ix (nI i + (1 : Int32)))) (1 : Int32) = some (b, m2) := e2
    refine ⟨m2, Ms', w', ls', v1, v2, v3, ?_⟩
    rw [gd_t h1, gd_t h2, if_neg hz]
    unfold B_L_law_1480
    rw [cal_t e1, gd_t h1, gd_t h2, if_neg hz]
    unfold B_L_law_1507
    rw [cal_t e2]
    exact law_fin (X := fun m33 => rec m33 (nI i + (6 : Int32))) (Y := fun m33 => some ((0 : Int32), m33)) e3 e4
theorem lb_cost {N L i : Nat} {xs : Nat → Int32} {rec : Mem → Int32 → Option (Int32 × Mem)} {m : Mem} {Ms : List Ma} {w : List Nat} {ls : Ls} (hN : 2000000000000 < N) (hV : InV Ms w ls) (hC : InC m Ms w ls) (hM : InM m Ms w ls) (h1 : inb (nI i + (1 : Int32)) L = true) (h2 : inb (nI i + (2 : Int32)) L = true) (h3 : inb (nI i + (3 : Int32)) L = true) (h4 : inb (nI i + (4 : Int32)) L = true) (h5 : inb (nI i + (5 : Int32)) L = true) : ∃ m' Ms' w' ls', InV Ms' w' ls' ∧ InC m' Ms' w' ls' ∧ InM m' Ms' w' ls' ∧ (gd (inb ((nI i) + (1 : Int32)) L) <|
      gd (inb ((nI i) + (2 : Int32)) L) <|
      if (xs (ix ((nI i) + (2 : Int32)))) = (0 : Int32) then (
        B_L_law_1564 N L xs rec m (nI i) (0 : Int32) (xs (ix ((nI i) + (1 : Int32))))
      ) else (
        B_L_law_1564 N L xs rec m (nI i) (1 : Int32) (xs (ix ((nI i) + (1 : Int32))))
      )) = rec m' (nI i + (6 : Int32)) := by
  by_cases hz : (xs (ix (nI i + (2 : Int32)))) = (0 : Int32)
  · obtain ⟨k, m1, b, m2, Ms', w', ls', e1, e2, e3, e4, v1, v2, v3⟩ := lw_cost hN hV hC hM (xs (ix (nI i + (1 : Int32)))) false
    have e1 : F_L_cost N m (xs (ix (nI i + (1 : Int32)))) (0 : Int32) = some (k, m1) := e1
    have e2 : F_X8_cost N m1 (xs (ix (nI i + (1 : Int32)))) (0 : Int32) = some (b, m2) := e2
    refine ⟨m2, Ms', w', ls', v1, v2, v3, ?_⟩
    rw [gd_t h1, gd_t h2, if_pos hz]
    unfold B_L_law_1564
    rw [cal_t e1, gd_t h1, gd_t h2, if_pos hz]
    unfold B_L_law_1591
    rw [cal_t e2]
    exact law_fin (X := fun m33 => rec m33 (nI i + (6 : Int32))) (Y := fun m33 => some ((0 : Int32), m33)) e3 e4
  · obtain ⟨k, m1, b, m2, Ms', w', ls', e1, e2, e3, e4, v1, v2, v3⟩ := lw_cost hN hV hC hM (xs (ix (nI i + (1 : Int32)))) true
    have e1 : F_L_cost N m (xs (ix (nI i + (1 : Int32)))) (1 : Int32) = some (k, m1) := e1
    have e2 : F_X8_cost N m1 (xs (ix (nI i + (1 : Int32)))) (1 : Int32) = some (b, m2) := e2
    refine ⟨m2, Ms', w', ls', v1, v2, v3, ?_⟩
    rw [gd_t h1, gd_t h2, if_neg hz]
    unfold B_L_law_1564
    rw [cal_t e1, gd_t h1, gd_t h2, if_neg hz]
    unfold B_L_law_1591
    rw [cal_t e2]
    exact law_fin (X := fun m33 => rec m33 (nI i + (6 : Int32))) (Y := fun m33 => some ((0 : Int32), m33)) e3 e4
theorem lb_best {N L i : Nat} {xs : Nat → Int32} {rec : Mem → Int32 → Option (Int32 × Mem)} {m : Mem} {Ms : List Ma} {w : List Nat} {ls : Ls} (hN : 2000000000000 < N) (hV : InV Ms w ls) (hC : InC m Ms w ls) (hM : InM m Ms w ls) (h1 : inb (nI i + (1 : Int32)) L = true) (h2 : inb (nI i + (2 : Int32)) L = true) (h3 : inb (nI i + (3 : Int32)) L = true) (h4 : inb (nI i + (4 : Int32)) L = true) (h5 : inb (nI i + (5 : Int32)) L = true) : ∃ m' Ms' w' ls', InV Ms' w' ls' ∧ InC m' Ms' w' ls' ∧ InM m' Ms' w' ls' ∧ (gd (inb ((nI i) + (1 : Int32)) L) <|
      gd (inb ((nI i) + (2 : Int32)) L) <|
      if (xs (ix ((nI i) + (2 : Int32)))) = (0 : Int32) then (
        B_L_law_1648 N L xs rec m (nI i) (0 : Int32) (xs (ix ((nI i) + (1 : Int32))))
      ) else (
        B_L_law_1648 N L xs rec m (nI i) (1 : Int32) (xs (ix ((nI i) + (1 : Int32))))
      )) = rec m' (nI i + (6 : Int32)) := by
  by_cases hz : (xs (ix (nI i + (2 : Int32)))) = (0 : Int32)
  · obtain ⟨k, m1, b, m2, Ms', w', ls', e1, e2, e3, e4, v1, v2, v3⟩ := lw_best hN hV hC hM (xs (ix (nI i + (1 : Int32)))) false (xs (ix (nI i + (3 : Int32))))
    have e1 : F_L_best N m (xs (ix (nI i + (1 : Int32)))) (0 : Int32) (xs (ix (nI i + (3 : Int32)))) = some (k, m1) := e1
    have e2 : F_X8_best N m1 (xs (ix (nI i + (1 : Int32)))) (0 : Int32) (xs (ix (nI i + (3 : Int32)))) = some (b, m2) := e2
    refine ⟨m2, Ms', w', ls', v1, v2, v3, ?_⟩
    rw [gd_t h1, gd_t h2, if_pos hz]
    unfold B_L_law_1648
    rw [gd_t h3, cal_t e1, gd_t h1, gd_t h2, if_pos hz]
    unfold B_L_law_1681
    rw [gd_t h3, cal_t e2]
    exact law_fin (X := fun m33 => rec m33 (nI i + (6 : Int32))) (Y := fun m33 => some ((0 : Int32), m33)) e3 e4
  · obtain ⟨k, m1, b, m2, Ms', w', ls', e1, e2, e3, e4, v1, v2, v3⟩ := lw_best hN hV hC hM (xs (ix (nI i + (1 : Int32)))) true (xs (ix (nI i + (3 : Int32))))
    have e1 : F_L_best N m (xs (ix (nI i + (1 : Int32)))) (1 : Int32) (xs (ix (nI i + (3 : Int32)))) = some (k, m1) := e1
    have e2 : F_X8_best N m1 (xs (ix (nI i + (1 : Int32)))) (1 : Int32) (xs (ix (nI i + (3 : Int32)))) = some (b, m2) := e2
    refine ⟨m2, Ms', w', ls', v1, v2, v3, ?_⟩
    rw [gd_t h1, gd_t h2, if_neg hz]
    unfold B_L_law_1648
    rw [gd_t h3, cal_t e1, gd_t h1, gd_t h2, if_neg hz]
    unfold B_L_law_1681
    rw [gd_t h3, cal_t e2]
    exact law_fin (X := fun m33 => rec m33 (nI i + (6 : Int32))) (Y := fun m33 => some ((0 : Int32), m33)) e3 e4
theorem lb_changes {N L i : Nat} {xs : Nat → Int32} {rec : Mem → Int32 → Option (Int32 × Mem)} {m : Mem} {Ms : List Ma} {w : List Nat} {ls : Ls} (hN : 2000000000000 < N) (hV : InV Ms w ls) (hC : InC m Ms w ls) (hM : InM m Ms w ls) (h1 : inb (nI i + (1 : Int32)) L = true) (h2 : inb (nI i + (2 : Int32)) L = true) (h3 : inb (nI i + (3 : Int32)) L = true) (h4 : inb (nI i + (4 : Int32)) L = true) (h5 : inb (nI i + (5 : Int32)) L = true) : ∃ m' Ms' w' ls', InV Ms' w' ls' ∧ InC m' Ms' w' ls' ∧ InM m' Ms' w' ls' ∧ (gd (inb ((nI i) + (1 : Int32)) L) <|
      cal (F_L_changes N m (xs (ix ((nI i) + (1 : Int32))))) fun r209 m208 =>
      gd (inb ((nI i) + (1 : Int32)) L) <|
      cal (F_X8_changes N m208 (xs (ix ((nI i) + (1 : Int32))))) fun r213 m212 =>
      cal (F_X8_thrown N m212) fun r216 m215 =>
      if r216 = r209 then (
        if r209 = (0 : Int32) then (
          gd (inb (0 : Int32) (alen 108)) <|
          if (lg_cmp (m215 108 (ix (0 : Int32))).toInt64 (r213).toInt64) = (0 : Int32) then (
            B_L_law_1776 N rec m215 (nI i)
          ) else (
            some ((0 : Int32), m215)
          )
        ) else (
          B_L_law_1776 N rec m215 (nI i)
        )
      ) else (
        some ((0 : Int32), m215)
      )) = rec m' (nI i + (6 : Int32)) := by
  obtain ⟨k, m1, b, m2, Ms', w', ls', e1, e2, e3, e4, v1, v2, v3⟩ := lw_changes hN hV hC hM (xs (ix (nI i + (1 : Int32))))
  refine ⟨m2, Ms', w', ls', v1, v2, v3, ?_⟩
  rw [gd_t h1, cal_t e1, gd_t h1, cal_t e2]
  exact law_fin (X := fun m33 => rec m33 (nI i + (6 : Int32))) (Y := fun m33 => some ((0 : Int32), m33)) e3 e4
theorem lb_mended {N L i : Nat} {xs : Nat → Int32} {rec : Mem → Int32 → Option (Int32 × Mem)} {m : Mem} {Ms : List Ma} {w : List Nat} {ls : Ls} (hN : 2000000000000 < N) (hV : InV Ms w ls) (hC : InC m Ms w ls) (hM : InM m Ms w ls) (h1 : inb (nI i + (1 : Int32)) L = true) (h2 : inb (nI i + (2 : Int32)) L = true) (h3 : inb (nI i + (3 : Int32)) L = true) (h4 : inb (nI i + (4 : Int32)) L = true) (h5 : inb (nI i + (5 : Int32)) L = true) : ∃ m' Ms' w' ls', InV Ms' w' ls' ∧ InC m' Ms' w' ls' ∧ InM m' Ms' w' ls' ∧ (gd (inb ((nI i) + (1 : Int32)) L) <|
      gd (inb ((nI i) + (2 : Int32)) L) <|
      cal (F_L_mended N m (xs (ix ((nI i) + (1 : Int32)))) (xs (ix ((nI i) + (2 : Int32))))) fun r222 m221 =>
      gd (inb ((nI i) + (1 : Int32)) L) <|
      gd (inb ((nI i) + (2 : Int32)) L) <|
      cal (F_X8_mended N m221 (xs (ix ((nI i) + (1 : Int32)))) (xs (ix ((nI i) + (2 : Int32))))) fun r227 m226 =>
      cal (F_X8_thrown N m226) fun r230 m229 =>
      if r230 = r222 then (
        if r222 = (0 : Int32) then (
          gd (inb (0 : Int32) (alen 108)) <|
          if (lg_cmp (m229 108 (ix (0 : Int32))).toInt64 (r227).toInt64) = (0 : Int32) then (
            B_L_law_1844 N rec m229 (nI i)
          ) else (
            some ((0 : Int32), m229)
          )
        ) else (
          B_L_law_1844 N rec m229 (nI i)
        )
      ) else (
        some ((0 : Int32), m229)
      )) = rec m' (nI i + (6 : Int32)) := by
  obtain ⟨k, m1, b, m2, Ms', w', ls', e1, e2, e3, e4, v1, v2, v3⟩ := lw_mended hN hV hC hM (xs (ix (nI i + (1 : Int32)))) (xs (ix (nI i + (2 : Int32))))
  refine ⟨m2, Ms', w', ls', v1, v2, v3, ?_⟩
  rw [gd_t h1, gd_t h2, cal_t e1, gd_t h1, gd_t h2, cal_t e2]
  exact law_fin (X := fun m33 => rec m33 (nI i + (6 : Int32))) (Y := fun m33 => some ((0 : Int32), m33)) e3 e4
theorem lb_apart {N L i : Nat} {xs : Nat → Int32} {rec : Mem → Int32 → Option (Int32 × Mem)} {m : Mem} {Ms : List Ma} {w : List Nat} {ls : Ls} (hN : 2000000000000 < N) (hV : InV Ms w ls) (hC : InC m Ms w ls) (hM : InM m Ms w ls) (h1 : inb (nI i + (1 : Int32)) L = true) (h2 : inb (nI i + (2 : Int32)) L = true) (h3 : inb (nI i + (3 : Int32)) L = true) (h4 : inb (nI i + (4 : Int32)) L = true) (h5 : inb (nI i + (5 : Int32)) L = true) : ∃ m' Ms' w' ls', InV Ms' w' ls' ∧ InC m' Ms' w' ls' ∧ InM m' Ms' w' ls' ∧ (gd (inb ((nI i) + (1 : Int32)) L) <|
      gd (inb ((nI i) + (2 : Int32)) L) <|
      gd (inb ((nI i) + (3 : Int32)) L) <|
      cal (F_L_apart N m (xs (ix ((nI i) + (1 : Int32)))) (xs (ix ((nI i) + (2 : Int32)))) (xs (ix ((nI i) + (3 : Int32))))) fun r237 m236 =>
      gd (inb ((nI i) + (1 : Int32)) L) <|
      gd (inb ((nI i) + (2 : Int32)) L) <|
      gd (inb ((nI i) + (3 : Int32)) L) <|
      cal (F_X8_apart N m236 (xs (ix ((nI i) + (1 : Int32)))) (xs (ix ((nI i) + (2 : Int32)))) (xs (ix ((nI i) + (3 : Int32))))) fun r243 m242 =>
      cal (F_X8_thrown N m242) fun r246 m245 =>
      if r246 = r237 then (
        if r237 = (0 : Int32) then (
          gd (inb (0 : Int32) (alen 108)) <|
          if (lg_cmp (m245 108 (ix (0 : Int32))).toInt64 (r243).toInt64) = (0 : Int32) then (
            B_L_law_1924 N rec m245 (nI i)
          ) else (
            some ((0 : Int32), m245)
          )
        ) else (
          B_L_law_1924 N rec m245 (nI i)
        )
      ) else (
        some ((0 : Int32), m245)
      )) = rec m' (nI i + (6 : Int32)) := by
  obtain ⟨k, m1, b, m2, Ms', w', ls', e1, e2, e3, e4, v1, v2, v3⟩ := lw_apart hN hV hC hM (xs (ix (nI i + (1 : Int32)))) (xs (ix (nI i + (2 : Int32)))) (xs (ix (nI i + (3 : Int32))))
  refine ⟨m2, Ms', w', ls', v1, v2, v3, ?_⟩
  rw [gd_t h1, gd_t h2, gd_t h3, cal_t e1, gd_t h1, gd_t h2, gd_t h3, cal_t e2]
  exact law_fin (X := fun m33 => rec m33 (nI i + (6 : Int32))) (Y := fun m33 => some ((0 : Int32), m33)) e3 e4
theorem lb_ruled {N L i : Nat} {xs : Nat → Int32} {rec : Mem → Int32 → Option (Int32 × Mem)} {m : Mem} {Ms : List Ma} {w : List Nat} {ls : Ls} (hN : 2000000000000 < N) (hV : InV Ms w ls) (hC : InC m Ms w ls) (hM : InM m Ms w ls) (h1 : inb (nI i + (1 : Int32)) L = true) (h2 : inb (nI i + (2 : Int32)) L = true) (h3 : inb (nI i + (3 : Int32)) L = true) (h4 : inb (nI i + (4 : Int32)) L = true) (h5 : inb (nI i + (5 : Int32)) L = true) : ∃ m' Ms' w' ls', InV Ms' w' ls' ∧ InC m' Ms' w' ls' ∧ InM m' Ms' w' ls' ∧ (gd (inb ((nI i) + (1 : Int32)) L) <|
      gd (inb ((nI i) + (2 : Int32)) L) <|
      gd (inb ((nI i) + (3 : Int32)) L) <|
      gd (inb ((nI i) + (4 : Int32)) L) <|
      gd (inb ((nI i) + (5 : Int32)) L) <|
      cal (F_L_ruled N m (xs (ix ((nI i) + (1 : Int32)))) (xs (ix ((nI i) + (2 : Int32)))) (xs (ix ((nI i) + (3 : Int32)))) (xs (ix ((nI i) + (4 : Int32)))) (xs (ix ((nI i) + (5 : Int32))))) fun r255 m254 =>
      gd (inb ((nI i) + (1 : Int32)) L) <|
      gd (inb ((nI i) + (2 : Int32)) L) <|
      gd (inb ((nI i) + (3 : Int32)) L) <|
      gd (inb ((nI i) + (4 : Int32)) L) <|
      gd (inb ((nI i) + (5 : Int32)) L) <|
      cal (F_X8_ruled N m254 (xs (ix ((nI i) + (1 : Int32)))) (xs (ix ((nI i) + (2 : Int32)))) (xs (ix ((nI i) + (3 : Int32)))) (xs (ix ((nI i) + (4 : Int32)))) (xs (ix ((nI i) + (5 : Int32))))) fun r263 m262 =>
      cal (F_X8_thrown N m262) fun r266 m265 =>
      if r266 = r255 then (
        if r255 = (0 : Int32) then (
          gd (inb (0 : Int32) (alen 108)) <|
          if (lg_cmp (m265 108 (ix (0 : Int32))).toInt64 (r263).toInt64) = (0 : Int32) then (
            B_L_law_2028 N rec m265 (nI i)
          ) else (
            some ((0 : Int32), m265)
          )
        ) else (
          B_L_law_2028 N rec m265 (nI i)
        )
      ) else (
        some ((0 : Int32), m265)
      )) = rec m' (nI i + (6 : Int32)) := by
  obtain ⟨k, m1, b, m2, Ms', w', ls', e1, e2, e3, e4, v1, v2, v3⟩ := lw_ruled hN hV hC hM (xs (ix (nI i + (1 : Int32)))) (xs (ix (nI i + (2 : Int32)))) (xs (ix (nI i + (3 : Int32)))) (xs (ix (nI i + (4 : Int32)))) (xs (ix (nI i + (5 : Int32))))
  refine ⟨m2, Ms', w', ls', v1, v2, v3, ?_⟩
  rw [gd_t h1, gd_t h2, gd_t h3, gd_t h4, gd_t h5, cal_t e1, gd_t h1, gd_t h2, gd_t h3, gd_t h4, gd_t h5, cal_t e2]
  exact law_fin (X := fun m33 => rec m33 (nI i + (6 : Int32))) (Y := fun m33 => some ((0 : Int32), m33)) e3 e4
theorem lb_learn {N L i : Nat} {xs : Nat → Int32} {rec : Mem → Int32 → Option (Int32 × Mem)} {m : Mem} {Ms : List Ma} {w : List Nat} {ls : Ls} (hN : 2000000000000 < N) (hV : InV Ms w ls) (hC : InC m Ms w ls) (hM : InM m Ms w ls) (h1 : inb (nI i + (1 : Int32)) L = true) (h2 : inb (nI i + (2 : Int32)) L = true) (h3 : inb (nI i + (3 : Int32)) L = true) (h4 : inb (nI i + (4 : Int32)) L = true) (h5 : inb (nI i + (5 : Int32)) L = true) : ∃ m' Ms' w' ls', InV Ms' w' ls' ∧ InC m' Ms' w' ls' ∧ InM m' Ms' w' ls' ∧ (gd (inb ((nI i) + (1 : Int32)) L) <|
      cal (F_L_learn N m (xs (ix ((nI i) + (1 : Int32))))) fun r271 m270 =>
      gd (inb ((nI i) + (1 : Int32)) L) <|
      cal (F_X8_learn N m270 (xs (ix ((nI i) + (1 : Int32))))) fun r275 m274 =>
      cal (F_X8_thrown N m274) fun r278 m277 =>
      if r278 = r271 then (
        if r271 = (0 : Int32) then (
          gd (inb (0 : Int32) (alen 108)) <|
          if (lg_cmp (m277 108 (ix (0 : Int32))).toInt64 (r275).toInt64) = (0 : Int32) then (
            B_L_law_2084 N rec m277 (nI i)
          ) else (
            some ((0 : Int32), m277)
          )
        ) else (
          B_L_law_2084 N rec m277 (nI i)
        )
      ) else (
        some ((0 : Int32), m277)
      )) = rec m' (nI i + (6 : Int32)) := by
  obtain ⟨k, m1, b, m2, Ms', w', ls', e1, e2, e3, e4, v1, v2, v3⟩ := lw_learn hN hV hC hM (xs (ix (nI i + (1 : Int32))))
  refine ⟨m2, Ms', w', ls', v1, v2, v3, ?_⟩
  rw [gd_t h1, cal_t e1, gd_t h1, cal_t e2]
  exact law_fin (X := fun m33 => rec m33 (nI i + (6 : Int32))) (Y := fun m33 => some ((0 : Int32), m33)) e3 e4
theorem lb_clear {N L i : Nat} {xs : Nat → Int32} {rec : Mem → Int32 → Option (Int32 × Mem)} {m : Mem} {Ms : List Ma} {w : List Nat} {ls : Ls} (hN : 2000000000000 < N) (hV : InV Ms w ls) (hC : InC m Ms w ls) (hM : InM m Ms w ls) (h1 : inb (nI i + (1 : Int32)) L = true) (h2 : inb (nI i + (2 : Int32)) L = true) (h3 : inb (nI i + (3 : Int32)) L = true) (h4 : inb (nI i + (4 : Int32)) L = true) (h5 : inb (nI i + (5 : Int32)) L = true) : ∃ m' Ms' w' ls', InV Ms' w' ls' ∧ InC m' Ms' w' ls' ∧ InM m' Ms' w' ls' ∧ (cal (F_X7_clear N m) fun r16 m15 =>
      cal (F_X8_clear N m15) fun r19 m18 =>
      if r16 = r19 then (
        B_L_law_2100 N rec m18 (nI i)
      ) else (
        some ((0 : Int32), m18)
      )) = rec m' (nI i + (6 : Int32)) := by
  obtain ⟨m1, m2, g1, g2, g3, g4, g5⟩ := sim_clear (N := N) hV hC hM
  refine ⟨m2, Ms, [], ls, g3, g4, g5, ?_⟩
  rw [cal_t g1, cal_t g2, if_pos rfl]
  rfl
theorem lb_guess {N L i : Nat} {xs : Nat → Int32} {rec : Mem → Int32 → Option (Int32 × Mem)} {m : Mem} {Ms : List Ma} {w : List Nat} {ls : Ls} (hN : 2000000000000 < N) (hV : InV Ms w ls) (hC : InC m Ms w ls) (hM : InM m Ms w ls) (h1 : inb (nI i + (1 : Int32)) L = true) (h2 : inb (nI i + (2 : Int32)) L = true) (h3 : inb (nI i + (3 : Int32)) L = true) (h4 : inb (nI i + (4 : Int32)) L = true) (h5 : inb (nI i + (5 : Int32)) L = true) : ∃ m' Ms' w' ls', InV Ms' w' ls' ∧ InC m' Ms' w' ls' ∧ InM m' Ms' w' ls' ∧ (cal (F_X7_guess N m) fun r282 m281 =>
      cal (F_X8_guess N m281) fun r285 m284 =>
      if r282 = r285 then (
        B_L_law_2100 N rec m284 (nI i)
      ) else (
        some ((0 : Int32), m284)
      )) = rec m' (nI i + (6 : Int32)) := by
  obtain ⟨m1, m2, g1, g2, g3, g4⟩ := sim_guess (N := N) (by omega) hV hC hM
  refine ⟨m2, Ms, w, ls, hV, g3, g4, ?_⟩
  rw [cal_t g1, cal_t g2, if_pos rfl]
  rfl
theorem law_lt {L i : Nat} (hL : L ≤ 4000) (hi : i ≤ 4000) : (nI L - (6 : Int32)) < nI i ↔ L < i + 6 := by
  rw [Int32.lt_iff_toInt_lt, show (6 : Int32) = nI 6 from rfl, pk_sub_toInt (by omega) (by omega), nI_toInt (by omega)]
  omega
theorem law_inb {L i k : Nat} (hL : L ≤ 4000) (h : i + k < L) : inb (nI i + nI k) L = true := by
  rw [nI_add]
  exact inbT h (by omega)
set_option maxRecDepth 100000 in
set_option maxHeartbeats 4000000 in
theorem law_step {N L i : Nat} {xs : Nat → Int32} {rec : Mem → Int32 → Option (Int32 × Mem)} {m : Mem} {Ms : List Ma} {w : List Nat} {ls : Ls} (hN : 2000000000000 < N) (hL : L ≤ 4000) (hi : i + 6 ≤ L) (hV : InV Ms w ls) (hC : InC m Ms w ls) (hM : InM m Ms w ls) : ∃ m' Ms' w' ls', InV Ms' w' ls' ∧ InC m' Ms' w' ls' ∧ InM m' Ms' w' ls' ∧ S_L_law_23 N L xs rec m (nI i) = rec m' (nI i + (6 : Int32)) := by
  have h1 : inb (nI i + (1 : Int32)) L = true := law_inb (k := 1) hL (by omega)
  have h2 : inb (nI i + (2 : Int32)) L = true := law_inb (k := 2) hL (by omega)
  have h3 : inb (nI i + (3 : Int32)) L = true := law_inb (k := 3) hL (by omega)
  have h4 : inb (nI i + (4 : Int32)) L = true := law_inb (k := 4) hL (by omega)
  have h5 : inb (nI i + (5 : Int32)) L = true := law_inb (k := 5) hL (by omega)
  have h0 : inb (nI i) L = true := inbT (by omega) (by omega)
  have hlt : ¬ (nI L - (6 : Int32)) < nI i := fun h => by
    have := (law_lt (by omega) (by omega)).mp h
    omega
  unfold S_L_law_23
  rw [if_neg hlt, gd_t h0]
  by_cases c0 : ((xs (ix (nI i))) &&& (31 : Int32)) = (0 : Int32)
  · rw [if_pos c0]
    exact lb_type (L := L) (xs := xs) hN hV hC hM h1 h2 h3 h4 h5
  rw [if_neg c0]
  by_cases c1 : ((xs (ix (nI i))) &&& (31 : Int32)) = (1 : Int32)
  · rw [if_pos c1]
    exact lb_clear (L := L) (xs := xs) hN hV hC hM h1 h2 h3 h4 h5
  rw [if_neg c1]
  by_cases c2 : ((xs (ix (nI i))) &&& (31 : Int32)) = (2 : Int32)
  · rw [if_pos c2]
    exact lb_pair (L := L) (xs := xs) hN hV hC hM h1 h2 h3 h4 h5
  rw [if_neg c2]
  by_cases c3 : ((xs (ix (nI i))) &&& (31 : Int32)) = (3 : Int32)
  · rw [if_pos c3]
    exact lb_word (L := L) (xs := xs) hN hV hC hM h1 h2 h3 h4 h5
  rw [if_neg c3]
  by_cases c4 : ((xs (ix (nI i))) &&& (31 : Int32)) = (4 : Int32)
  · rw [if_pos c4]
    exact lb_any (L := L) (xs := xs) hN hV hC hM h1 h2 h3 h4 h5
  rw [if_neg c4]
  by_cases c5 : ((xs (ix (nI i))) &&& (31 : Int32)) = (5 : Int32)
  · rw [if_pos c5]
    exact lb_join (L := L) (xs := xs) hN hV hC hM h1 h2 h3 h4 h5
  rw [if_neg c5]
  by_cases c6 : ((xs (ix (nI i))) &&& (31 : Int32)) = (6 : Int32)
  · rw [if_pos c6]
    exact lb_unite (L := L) (xs := xs) hN hV hC hM h1 h2 h3 h4 h5
  rw [if_neg c6]
  by_cases c7 : ((xs (ix (nI i))) &&& (31 : Int32)) = (7 : Int32)
  · rw [if_pos c7]
    exact lb_repeat (L := L) (xs := xs) hN hV hC hM h1 h2 h3 h4 h5
  rw [if_neg c7]
  by_cases c8 : ((xs (ix (nI i))) &&& (31 : Int32)) = (8 : Int32)
  · rw [if_pos c8]
    exact lb_turn (L := L) (xs := xs) hN hV hC hM h1 h2 h3 h4 h5
  rw [if_neg c8]
  by_cases c9 : ((xs (ix (nI i))) &&& (31 : Int32)) = (9 : Int32)
  · rw [if_pos c9]
    exact lb_compose (L := L) (xs := xs) hN hV hC hM h1 h2 h3 h4 h5
  rw [if_neg c9]
  by_cases c10 : ((xs (ix (nI i))) &&& (31 : Int32)) = (10 : Int32)
  · rw [if_pos c10]
    exact lb_side (L := L) (xs := xs) hN hV hC hM h1 h2 h3 h4 h5
  rw [if_neg c10]
  by_cases c11 : ((xs (ix (nI i))) &&& (31 : Int32)) = (11 : Int32)
  · rw [if_pos c11]
    exact lb_least (L := L) (xs := xs) hN hV hC hM h1 h2 h3 h4 h5
  rw [if_neg c11]
  by_cases c12 : ((xs (ix (nI i))) &&& (31 : Int32)) = (12 : Int32)
  · rw [if_pos c12]
    exact lb_meet (L := L) (xs := xs) hN hV hC hM h1 h2 h3 h4 h5
  rw [if_neg c12]
  by_cases c13 : ((xs (ix (nI i))) &&& (31 : Int32)) = (13 : Int32)
  · rw [if_pos c13]
    exact lb_rule (L := L) (xs := xs) hN hV hC hM h1 h2 h3 h4 h5
  rw [if_neg c13]
  by_cases c14 : ((xs (ix (nI i))) &&& (31 : Int32)) = (14 : Int32)
  · rw [if_pos c14]
    exact lb_size (L := L) (xs := xs) hN hV hC hM h1 h2 h3 h4 h5
  rw [if_neg c14]
  by_cases c15 : ((xs (ix (nI i))) &&& (31 : Int32)) = (15 : Int32)
  · rw [if_pos c15]
    exact lb_isEnd (L := L) (xs := xs) hN hV hC hM h1 h2 h3 h4 h5
  rw [if_neg c15]
  by_cases c16 : ((xs (ix (nI i))) &&& (31 : Int32)) = (16 : Int32)
  · rw [if_pos c16]
    exact lb_arc (L := L) (xs := xs) hN hV hC hM h1 h2 h3 h4 h5
  rw [if_neg c16]
  by_cases c17 : ((xs (ix (nI i))) &&& (31 : Int32)) = (17 : Int32)
  · rw [if_pos c17]
    exact lb_isPlain (L := L) (xs := xs) hN hV hC hM h1 h2 h3 h4 h5
  rw [if_neg c17]
  by_cases c18 : ((xs (ix (nI i))) &&& (31 : Int32)) = (18 : Int32)
  · rw [if_pos c18]
    exact lb_answer (L := L) (xs := xs) hN hV hC hM h1 h2 h3 h4 h5
  rw [if_neg c18]
  by_cases c19 : ((xs (ix (nI i))) &&& (31 : Int32)) = (19 : Int32)
  · rw [if_pos c19]
    exact lb_answers (L := L) (xs := xs) hN hV hC hM h1 h2 h3 h4 h5
  rw [if_neg c19]
  by_cases c20 : ((xs (ix (nI i))) &&& (31 : Int32)) = (20 : Int32)
  · rw [if_pos c20]
    exact lb_cost (L := L) (xs := xs) hN hV hC hM h1 h2 h3 h4 h5
  rw [if_neg c20]
  by_cases c21 : ((xs (ix (nI i))) &&& (31 : Int32)) = (21 : Int32)
  · rw [if_pos c21]
    exact lb_best (L := L) (xs := xs) hN hV hC hM h1 h2 h3 h4 h5
  rw [if_neg c21]
  by_cases c22 : ((xs (ix (nI i))) &&& (31 : Int32)) = (22 : Int32)
  · rw [if_pos c22]
    exact lb_changes (L := L) (xs := xs) hN hV hC hM h1 h2 h3 h4 h5
  rw [if_neg c22]
  by_cases c23 : ((xs (ix (nI i))) &&& (31 : Int32)) = (23 : Int32)
  · rw [if_pos c23]
    exact lb_mended (L := L) (xs := xs) hN hV hC hM h1 h2 h3 h4 h5
  rw [if_neg c23]
  by_cases c24 : ((xs (ix (nI i))) &&& (31 : Int32)) = (24 : Int32)
  · rw [if_pos c24]
    exact lb_apart (L := L) (xs := xs) hN hV hC hM h1 h2 h3 h4 h5
  rw [if_neg c24]
  by_cases c25 : ((xs (ix (nI i))) &&& (31 : Int32)) = (25 : Int32)
  · rw [if_pos c25]
    exact lb_ruled (L := L) (xs := xs) hN hV hC hM h1 h2 h3 h4 h5
  rw [if_neg c25]
  by_cases c26 : ((xs (ix (nI i))) &&& (31 : Int32)) = (26 : Int32)
  · rw [if_pos c26]
    exact lb_learn (L := L) (xs := xs) hN hV hC hM h1 h2 h3 h4 h5
  rw [if_neg c26]
  by_cases c27 : ((xs (ix (nI i))) &&& (31 : Int32)) = (27 : Int32)
  · rw [if_pos c27]
    exact lb_guess (L := L) (xs := xs) hN hV hC hM h1 h2 h3 h4 h5
  rw [if_neg c27]
  exact ⟨m, Ms, w, ls, hV, hC, hM, rfl⟩
theorem law_all {N L : Nat} {xs : Nat → Int32} (hN : 2000000000000 < N) (hL : L ≤ 3072) : ∀ d f i m Ms w ls, L < i + 6 * d + 6 → d < f → i ≤ 3072 → InV Ms w ls → InC m Ms w ls → InM m Ms w ls → ∃ m', L_L_law_23 N L xs f m (nI i) = some (1, m') := by
  intro d
  induction d with
  | zero =>
    intro f i m Ms w ls h1 h2 hi _ _ _
    obtain ⟨f, rfl⟩ : ∃ f', f = f' + 1 := ⟨f - 1, by omega⟩
    refine ⟨m, ?_⟩
    show S_L_law_23 N L xs (L_L_law_23 N L xs f) m (nI i) = _
    unfold S_L_law_23
    rw [if_pos ((law_lt (by omega) (by omega)).mpr (by omega))]
  | succ d ih =>
    intro f i m Ms w ls h1 h2 hi hV hC hM
    obtain ⟨f, rfl⟩ : ∃ f', f = f' + 1 := ⟨f - 1, by omega⟩
    show ∃ m', S_L_law_23 N L xs (L_L_law_23 N L xs f) m (nI i) = _
    by_cases c : L < i + 6
    · refine ⟨m, ?_⟩
      unfold S_L_law_23
      rw [if_pos ((law_lt (by omega) (by omega)).mpr c)]
    · obtain ⟨m1, Ms', w', ls', v1, v2, v3, e⟩ := law_step (xs := xs) (rec := L_L_law_23 N L xs f) hN (by omega) (by omega : i + 6 ≤ L) hV hC hM
      rw [e, show (6 : Int32) = nI 6 from rfl, nI_add]
      exact ih f (i + 6) m1 Ms' w' ls' (by omega) (by omega) (by omega) v1 v2 v3
theorem law_start : InV [] [] [] ∧ InC mem0 [] [] [] ∧ InM mem0 [] [] [] := by
  refine ⟨⟨by simp, fun M h => (by cases h), by simp, fun x h => (by cases h), by simp, fun p h => (by cases h)⟩, ⟨rfl, fun i M h => (by simp at h), rfl, fun j x h => (by simp at h), rfl, fun i p h => (by simp at h), Or.inl ⟨rfl, rfl⟩⟩, ⟨rfl, fun i M h => (by simp at h), rfl, fun j x h => (by simp at h), rfl, fun i p h => (by simp at h)⟩⟩
theorem law_pure {L : Nat} (xs : Nat → Int32) (hL : L ≤ 3072) : ∃ Nf m', L_L_law_23 Nf L xs 600 mem0 0 = some (1, m') := by
  obtain ⟨h1, h2, h3⟩ := law_start
  obtain ⟨N, hN⟩ : ∃ N : Nat, 2000000000000 < N := ⟨_, Nat.lt_succ_self _⟩
  obtain ⟨m', h⟩ := law_all (N := N) (xs := xs) hN hL 512 600 0 mem0 [] [] [] (by omega) (by omega) (by omega) h1 h2 h3
  exact ⟨N, m', h⟩
