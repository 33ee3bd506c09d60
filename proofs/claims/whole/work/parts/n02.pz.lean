/-! each call of the law, on both sides -/
theorem calw_main {o : Option ((Int32 ⊕ Nat) × Mem)} {g : Nat → Mem → Option (Int32 × Mem)} : calw o (fun r3 m2 => gd (inb (0 : Int32) (alen 108)) <| bnd (mup m2 108 (ix (0 : Int32)) (r3)) fun m6 => some ((0 : Int32), m6)) g = calw o (fun r m2 => some (nI 0, mup m2 108 0 r)) g := by
  congr 1
theorem calw_bool {o : Option ((Int32 ⊕ Nat) × Mem)} {g : Nat → Mem → Option (Int32 × Mem)} : calw o (fun r3 m2 => if r3 = (0 : Int32) then (gd (inb (0 : Int32) (alen 108)) <| bnd (mup m2 108 (ix (0 : Int32)) ((0 : Int32))) fun m6 => some ((0 : Int32), m6)) else (gd (inb (0 : Int32) (alen 108)) <| bnd (mup m2 108 (ix (0 : Int32)) ((1 : Int32))) fun m8 => some ((0 : Int32), m8))) g = calw o (fun r m2 => some (nI 0, mup m2 108 0 (if r = nI 0 then nI 0 else nI 1))) g := by
  congr 1
  funext r m2
  by_cases c : r = nI 0
  · rw [if_pos c, show (0 : Int32) = nI 0 from rfl, if_pos c]
    simp (disch := omega) only [zi_t, zi_f, bnd_t, zg_in, zx, nI_ltI, nI_leI, nI_eq, nI_add, pk_mul, pk_sub, mup_s, mup_c, mup_j, mrw_c, if_pos, if_neg, zm_1, zm_2, zm_3, zm_4, zm_5, zm_6, zm_7, zm_8, zm_9, zf_0, zf_1, zf_2, zf_3, zf_4, zf_5, zf_6, zf_7, zf_8, zf_9, zf_10, zf_14, zf_15, zf_16, zf_18, zf_19, zf_20, zf_24, zf_30, zf_31, zf_32, zf_33, zf_99, zf_100, zf_160, zf_200, zf_287, zf_288, zf_300, zf_1000, zf_1023, zf_1024, zf_1600, zf_3840, zf_25600, zf_36000, zf_1000000, zf_1000000000, zf_2000000000, zf_11560, za_1, za_2, za_4, za_5, za_6, za_7, za_8, za_9, za_10, za_11, za_12, za_14, za_15, za_22, za_23, za_25, za_26, za_27, za_28, za_29, za_30, za_31, za_32, za_33, za_34, za_35, za_41, za_42, za_43, za_44, za_45, za_46, za_47, za_48, za_49, za_61, za_62, za_63, za_64, za_65, za_71, za_72, za_73, za_74, za_75, za_76, za_77, za_78, za_79, za_80, za_81, za_82, za_83, za_84, za_85, za_86, za_87, za_88, za_89, za_90, za_91, za_92, za_93, za_94, za_95, za_96, za_97, za_98, za_99, za_100, za_101, za_102, za_103, za_104, za_105, za_106, za_107, za_108]
  · rw [if_neg c, show (0 : Int32) = nI 0 from rfl, if_neg c]
    simp (disch := omega) only [zi_t, zi_f, bnd_t, zg_in, zx, nI_ltI, nI_leI, nI_eq, nI_add, pk_mul, pk_sub, mup_s, mup_c, mup_j, mrw_c, if_pos, if_neg, zm_1, zm_2, zm_3, zm_4, zm_5, zm_6, zm_7, zm_8, zm_9, zf_0, zf_1, zf_2, zf_3, zf_4, zf_5, zf_6, zf_7, zf_8, zf_9, zf_10, zf_14, zf_15, zf_16, zf_18, zf_19, zf_20, zf_24, zf_30, zf_31, zf_32, zf_33, zf_99, zf_100, zf_160, zf_200, zf_287, zf_288, zf_300, zf_1000, zf_1023, zf_1024, zf_1600, zf_3840, zf_25600, zf_36000, zf_1000000, zf_1000000000, zf_2000000000, zf_11560, za_1, za_2, za_4, za_5, za_6, za_7, za_8, za_9, za_10, za_11, za_12, za_14, za_15, za_22, za_23, za_25, za_26, za_27, za_28, za_29, za_30, za_31, za_32, za_33, za_34, za_35, za_41, za_42, za_43, za_44, za_45, za_46, za_47, za_48, za_49, za_61, za_62, za_63, za_64, za_65, za_71, za_72, za_73, za_74, za_75, za_76, za_77, za_78, za_79, za_80, za_81, za_82, za_83, za_84, za_85, za_86, za_87, za_88, za_89, za_90, za_91, za_92, za_93, za_94, za_95, za_96, za_97, za_98, za_99, za_100, za_101, za_102, za_103, za_104, za_105, za_106, za_107, za_108]
theorem lw_gen {κ : Nat → Int32} {c : Mem → Option ((Int32 ⊕ Nat) × Mem)} {d : Mem → Option (Int32 × Mem)} {S : List Nat} {g : Nat → Mem → Option (Int32 × Mem)} {wr : Mem → Option (Int32 × Mem)} {φ : Int32 → Int32} {m : Mem} {Ms : List Ma} {w : List Nat} {ls : Ls} (hs : Sim1 κ c d Ms w ls) (hS : EX S (c m)) (hw : wr m = calw (c m) (fun r m2 => some (nI 0, mup m2 108 0 (φ r))) g) (hg : ∀ x, x ∈ S → ∀ m, g x m = some (κ x, m)) (hκ : ∀ x, x ∈ S → κ x ≠ nI 0) (hC : InC m Ms w ls) (hM : InM m Ms w ls) :
    ∃ k m1 b m2 Ms' w' ls', wr m = some (k, m1) ∧ d m1 = some (b, m2) ∧ m2 70 0 = k ∧ (k = nI 0 → m2 108 0 = φ b) ∧ InV Ms' w' ls' ∧ InC m2 Ms' w' ls' ∧ InM m2 Ms' w' ls' := by
  obtain ⟨r, t, b, Ms', w', ls', hV', hc, hd, ht, hb⟩ := hs
  obtain ⟨m0, c1, c2, c3⟩ := hc m hC
  have hM0 : InM m0 Ms w ls := hM.cg (fun k hk => c3 k (by omega) (by omega)) (by rw [c3 70 (by omega) (by omega)]) (by rw [c3 70 (by omega) (by omega)]) (by rw [c3 70 (by omega) (by omega)])
  cases r with
  | inl v =>
    have hM1 : InM (mup m0 108 0 (φ v)) Ms w ls := hM0.cg (fun k hk => mup_r (by omega)) (by rw [mup_c (by omega)]) (by rw [mup_c (by omega)]) (by rw [mup_c (by omega)])
    have hC1 : InC (mup m0 108 0 (φ v)) Ms' w' ls' := c2.cg (fun k hk => mup_r (by omega))
    obtain ⟨m2, d1, d2, d3, d4⟩ := hd _ hM1
    refine ⟨nI 0, _, b, m2, Ms', w', ls', ?_, d1, by rw [d2, ht]; rfl, fun _ => by rw [d4 108 (by omega), mup_s, hb v rfl], hV', hC1.cg (fun k hk => d4 k (by omega)), d3⟩
    rw [hw, c1]
    rfl
  | inr x =>
    have hx : x ∈ S := hS x m0 c1
    obtain ⟨m2, d1, d2, d3, d4⟩ := hd _ hM0
    refine ⟨κ x, m0, b, m2, Ms', w', ls', ?_, d1, by rw [d2, ht]; rfl, fun h => absurd h (hκ x hx), hV', c2.cg (fun k hk => d4 k (by omega)), d3⟩
    rw [hw, c1]
    exact hg x hx m0
theorem lw_type {N : Nat} {m : Mem} {Ms : List Ma} {w : List Nat} {ls : Ls} (hN : 2000000000000 < N) (hV : InV Ms w ls) (hC : InC m Ms w ls) (hM : InM m Ms w ls) (a1 : Int32) :
    ∃ k m1 b m2 Ms' w' ls', F_L_type N m a1 = some (k, m1) ∧ F_X8_type N m1 a1 = some (b, m2) ∧ m2 70 0 = k ∧ (k = nI 0 → m2 108 0 = b) ∧ InV Ms' w' ls' ∧ InC m2 Ms' w' ls' ∧ InM m2 Ms' w' ls' :=
  lw_gen (κ := fun e => nI (e + 1)) (c := fun m => F_X7_type N m a1) (d := fun m => F_X8_type N m a1) (S := [0, 1]) (wr := fun m => F_L_type N m a1) (φ := fun r => r) ((sim_type (N := N) a1) Ms w ls hV) ex_F_X7_type (by
    show F_L_type N m a1 = _
    unfold F_L_type
    exact calw_main) (fun x hx => by
    have : x = 0 ∨ x = 1 := by simpa using hx
    rcases this with rfl | rfl <;> exact fun m => rfl) (fun x hx => by
    have : x = 0 ∨ x = 1 := by simpa using hx
    rcases this with rfl | rfl
    · exact fun h => absurd (show nI 1 = nI 0 from h) (by decide)
    · exact fun h => absurd (show nI 2 = nI 0 from h) (by decide)) hC hM
theorem lw_pair {N : Nat} {m : Mem} {Ms : List Ma} {w : List Nat} {ls : Ls} (hN : 2000000000000 < N) (hV : InV Ms w ls) (hC : InC m Ms w ls) (hM : InM m Ms w ls) (a1 : Int32) (a2 : Int32) (a3 : Int32) :
    ∃ k m1 b m2 Ms' w' ls', F_L_pair N m a1 a2 a3 = some (k, m1) ∧ F_X8_pair N m1 a1 a2 a3 = some (b, m2) ∧ m2 70 0 = k ∧ (k = nI 0 → m2 108 0 = b) ∧ InV Ms' w' ls' ∧ InC m2 Ms' w' ls' ∧ InM m2 Ms' w' ls' :=
  lw_gen (κ := fun e => nI (e + 1)) (c := fun m => F_X7_pair N m a1 a2 a3) (d := fun m => F_X8_pair N m a1 a2 a3) (S := [0, 1]) (wr := fun m => F_L_pair N m a1 a2 a3) (φ := fun r => r) (sim_pair (by omega) a1 a2 a3 Ms w ls hV) ex_F_X7_pair (by
    show F_L_pair N m a1 a2 a3 = _
    unfold F_L_pair
    exact calw_main) (fun x hx => by
    have : x = 0 ∨ x = 1 := by simpa using hx
    rcases this with rfl | rfl <;> exact fun m => rfl) (fun x hx => by
    have : x = 0 ∨ x = 1 := by simpa using hx
    rcases this with rfl | rfl
    · exact fun h => absurd (show nI 1 = nI 0 from h) (by decide)
    · exact fun h => absurd (show nI 2 = nI 0 from h) (by decide)) hC hM
theorem lw_word {N : Nat} {m : Mem} {Ms : List Ma} {w : List Nat} {ls : Ls} (hN : 2000000000000 < N) (hV : InV Ms w ls) (hC : InC m Ms w ls) (hM : InM m Ms w ls)  :
    ∃ k m1 b m2 Ms' w' ls', F_L_word N m  = some (k, m1) ∧ F_X8_word N m1  = some (b, m2) ∧ m2 70 0 = k ∧ (k = nI 0 → m2 108 0 = b) ∧ InV Ms' w' ls' ∧ InC m2 Ms' w' ls' ∧ InM m2 Ms' w' ls' :=
  lw_gen (κ := fun e => nI e) (c := fun m => F_X7_word N m ) (d := fun m => F_X8_word N m ) (S := [1]) (wr := fun m => F_L_word N m ) (φ := fun r => r) (sim_word (by omega)  Ms w ls hV) ex_F_X7_word (by
    show F_L_word N m  = _
    unfold F_L_word
    exact calw_main) (fun x hx => by
    have : x = 1 := by simpa using hx
    subst this <;> exact fun m => rfl) (fun x hx => by
    have : x = 1 := by simpa using hx
    subst this
    · exact fun h => absurd (show nI 1 = nI 0 from h) (by decide)) hC hM
theorem lw_any {N : Nat} {m : Mem} {Ms : List Ma} {w : List Nat} {ls : Ls} (hN : 2000000000000 < N) (hV : InV Ms w ls) (hC : InC m Ms w ls) (hM : InM m Ms w ls)  :
    ∃ k m1 b m2 Ms' w' ls', F_L_any N m  = some (k, m1) ∧ F_X8_any N m1  = some (b, m2) ∧ m2 70 0 = k ∧ (k = nI 0 → m2 108 0 = b) ∧ InV Ms' w' ls' ∧ InC m2 Ms' w' ls' ∧ InM m2 Ms' w' ls' :=
  lw_gen (κ := fun e => nI e) (c := fun m => F_X7_any N m ) (d := fun m => F_X8_any N m ) (S := [1]) (wr := fun m => F_L_any N m ) (φ := fun r => r) (sim_any (by omega)  Ms w ls hV) ex_F_X7_any (by
    show F_L_any N m  = _
    unfold F_L_any
    exact calw_main) (fun x hx => by
    have : x = 1 := by simpa using hx
    subst this <;> exact fun m => rfl) (fun x hx => by
    have : x = 1 := by simpa using hx
    subst this
    · exact fun h => absurd (show nI 1 = nI 0 from h) (by decide)) hC hM
theorem lw_join {N : Nat} {m : Mem} {Ms : List Ma} {w : List Nat} {ls : Ls} (hN : 2000000000000 < N) (hV : InV Ms w ls) (hC : InC m Ms w ls) (hM : InM m Ms w ls) (a1 : Int32) (a2 : Int32) :
    ∃ k m1 b m2 Ms' w' ls', F_L_join N m a1 a2 = some (k, m1) ∧ F_X8_join N m1 a1 a2 = some (b, m2) ∧ m2 70 0 = k ∧ (k = nI 0 → m2 108 0 = b) ∧ InV Ms' w' ls' ∧ InC m2 Ms' w' ls' ∧ InM m2 Ms' w' ls' :=
  lw_gen (κ := fun e => nI (3 - e)) (c := fun m => F_X7_join N m a1 a2) (d := fun m => F_X8_join N m a1 a2) (S := [1, 2]) (wr := fun m => F_L_join N m a1 a2) (φ := fun r => r) (sim_join (by omega) a1 a2 Ms w ls hV) ex_F_X7_join (by
    show F_L_join N m a1 a2 = _
    unfold F_L_join
    exact calw_main) (fun x hx => by
    have : x = 1 ∨ x = 2 := by simpa using hx
    rcases this with rfl | rfl <;> exact fun m => rfl) (fun x hx => by
    have : x = 1 ∨ x = 2 := by simpa using hx
    rcases this with rfl | rfl
    · exact fun h => absurd (show nI 2 = nI 0 from h) (by decide)
    · exact fun h => absurd (show nI 1 = nI 0 from h) (by decide)) hC hM
theorem lw_unite {N : Nat} {m : Mem} {Ms : List Ma} {w : List Nat} {ls : Ls} (hN : 2000000000000 < N) (hV : InV Ms w ls) (hC : InC m Ms w ls) (hM : InM m Ms w ls) (a1 : Int32) (a2 : Int32) :
    ∃ k m1 b m2 Ms' w' ls', F_L_unite N m a1 a2 = some (k, m1) ∧ F_X8_unite N m1 a1 a2 = some (b, m2) ∧ m2 70 0 = k ∧ (k = nI 0 → m2 108 0 = b) ∧ InV Ms' w' ls' ∧ InC m2 Ms' w' ls' ∧ InM m2 Ms' w' ls' :=
  lw_gen (κ := fun e => nI (3 - e)) (c := fun m => F_X7_unite N m a1 a2) (d := fun m => F_X8_unite N m a1 a2) (S := [1, 2]) (wr := fun m => F_L_unite N m a1 a2) (φ := fun r => r) (sim_unite (by omega) a1 a2 Ms w ls hV) ex_F_X7_unite (by
    show F_L_unite N m a1 a2 = _
    unfold F_L_unite
    exact calw_main) (fun x hx => by
    have : x = 1 ∨ x = 2 := by simpa using hx
    rcases this with rfl | rfl <;> exact fun m => rfl) (fun x hx => by
    have : x = 1 ∨ x = 2 := by simpa using hx
    rcases this with rfl | rfl
    · exact fun h => absurd (show nI 2 = nI 0 from h) (by decide)
    · exact fun h => absurd (show nI 1 = nI 0 from h) (by decide)) hC hM
theorem lw_repeat {N : Nat} {m : Mem} {Ms : List Ma} {w : List Nat} {ls : Ls} (hN : 2000000000000 < N) (hV : InV Ms w ls) (hC : InC m Ms w ls) (hM : InM m Ms w ls) (a1 : Int32) :
    ∃ k m1 b m2 Ms' w' ls', F_L_repeat N m a1 = some (k, m1) ∧ F_X8_repeat N m1 a1 = some (b, m2) ∧ m2 70 0 = k ∧ (k = nI 0 → m2 108 0 = b) ∧ InV Ms' w' ls' ∧ InC m2 Ms' w' ls' ∧ InM m2 Ms' w' ls' :=
  lw_gen (κ := fun e => nI (3 - e)) (c := fun m => F_X7_repeat N m a1) (d := fun m => F_X8_repeat N m a1) (S := [1, 2]) (wr := fun m => F_L_repeat N m a1) (φ := fun r => r) (sim_repeat (by omega) a1 Ms w ls hV) ex_F_X7_repeat (by
    show F_L_repeat N m a1 = _
    unfold F_L_repeat
    exact calw_main) (fun x hx => by
    have : x = 1 ∨ x = 2 := by simpa using hx
    rcases this with rfl | rfl <;> exact fun m => rfl) (fun x hx => by
    have : x = 1 ∨ x = 2 := by simpa using hx
    rcases this with rfl | rfl
    · exact fun h => absurd (show nI 2 = nI 0 from h) (by decide)
    · exact fun h => absurd (show nI 1 = nI 0 from h) (by decide)) hC hM
theorem lw_turn {N : Nat} {m : Mem} {Ms : List Ma} {w : List Nat} {ls : Ls} (hN : 2000000000000 < N) (hV : InV Ms w ls) (hC : InC m Ms w ls) (hM : InM m Ms w ls) (a1 : Int32) :
    ∃ k m1 b m2 Ms' w' ls', F_L_turn N m a1 = some (k, m1) ∧ F_X8_turn N m1 a1 = some (b, m2) ∧ m2 70 0 = k ∧ (k = nI 0 → m2 108 0 = b) ∧ InV Ms' w' ls' ∧ InC m2 Ms' w' ls' ∧ InM m2 Ms' w' ls' :=
  lw_gen (κ := fun e => nI (3 - e)) (c := fun m => F_X7_turn N m a1) (d := fun m => F_X8_turn N m a1) (S := [1, 2]) (wr := fun m => F_L_turn N m a1) (φ := fun r => r) (sim_turn (by omega) a1 Ms w ls hV) ex_F_X7_turn (by
    show F_L_turn N m a1 = _
    unfold F_L_turn
    exact calw_main) (fun x hx => by
    have : x = 1 ∨ x = 2 := by simpa using hx
    rcases this with rfl | rfl <;> exact fun m => rfl) (fun x hx => by
    have : x = 1 ∨ x = 2 := by simpa using hx
    rcases this with rfl | rfl
    · exact fun h => absurd (show nI 2 = nI 0 from h) (by decide)
    · exact fun h => absurd (show nI 1 = nI 0 from h) (by decide)) hC hM
theorem lw_compose {N : Nat} {m : Mem} {Ms : List Ma} {w : List Nat} {ls : Ls} (hN : 2000000000000 < N) (hV : InV Ms w ls) (hC : InC m Ms w ls) (hM : InM m Ms w ls) (a1 : Int32) (a2 : Int32) :
    ∃ k m1 b m2 Ms' w' ls', F_L_compose N m a1 a2 = some (k, m1) ∧ F_X8_compose N m1 a1 a2 = some (b, m2) ∧ m2 70 0 = k ∧ (k = nI 0 → m2 108 0 = b) ∧ InV Ms' w' ls' ∧ InC m2 Ms' w' ls' ∧ InM m2 Ms' w' ls' :=
  lw_gen (κ := fun e => nI (3 - e)) (c := fun m => F_X7_compose N m a1 a2) (d := fun m => F_X8_compose N m a1 a2) (S := [1, 2]) (wr := fun m => F_L_compose N m a1 a2) (φ := fun r => r) (sim_compose (by omega) a1 a2 Ms w ls hV) ex_F_X7_compose (by
    show F_L_compose N m a1 a2 = _
    unfold F_L_compose
    exact calw_main) (fun x hx => by
    have : x = 1 ∨ x = 2 := by simpa using hx
    rcases this with rfl | rfl <;> exact fun m => rfl) (fun x hx => by
    have : x = 1 ∨ x = 2 := by simpa using hx
    rcases this with rfl | rfl
    · exact fun h => absurd (show nI 2 = nI 0 from h) (by decide)
    · exact fun h => absurd (show nI 1 = nI 0 from h) (by decide)) hC hM
theorem lw_side {N : Nat} {m : Mem} {Ms : List Ma} {w : List Nat} {ls : Ls} (hN : 2000000000000 < N) (hV : InV Ms w ls) (hC : InC m Ms w ls) (hM : InM m Ms w ls) (a1 : Int32) (a2 : Bool) :
    ∃ k m1 b m2 Ms' w' ls', F_L_side N m a1 (bI a2) = some (k, m1) ∧ F_X8_side N m1 a1 (bI a2) = some (b, m2) ∧ m2 70 0 = k ∧ (k = nI 0 → m2 108 0 = b) ∧ InV Ms' w' ls' ∧ InC m2 Ms' w' ls' ∧ InM m2 Ms' w' ls' :=
  lw_gen (κ := fun e => nI (3 - e)) (c := fun m => F_X7_side N m a1 (bI a2)) (d := fun m => F_X8_side N m a1 (bI a2)) (S := [1, 2]) (wr := fun m => F_L_side N m a1 (bI a2)) (φ := fun r => r) (sim_side (by omega) a1 a2 Ms w ls hV) ex_F_X7_side (by
    show F_L_side N m a1 (bI a2) = _
    unfold F_L_side
    exact calw_main) (fun x hx => by
    have : x = 1 ∨ x = 2 := by simpa using hx
    rcases this with rfl | rfl <;> exact fun m => rfl) (fun x hx => by
    have : x = 1 ∨ x = 2 := by simpa using hx
    rcases this with rfl | rfl
    · exact fun h => absurd (show nI 2 = nI 0 from h) (by decide)
    · exact fun h => absurd (show nI 1 = nI 0 from h) (by decide)) hC hM
theorem lw_least {N : Nat} {m : Mem} {Ms : List Ma} {w : List Nat} {ls : Ls} (hN : 2000000000000 < N) (hV : InV Ms w ls) (hC : InC m Ms w ls) (hM : InM m Ms w ls) (a1 : Int32) :
    ∃ k m1 b m2 Ms' w' ls', F_L_least N m a1 = some (k, m1) ∧ F_X8_least N m1 a1 = some (b, m2) ∧ m2 70 0 = k ∧ (k = nI 0 → m2 108 0 = b) ∧ InV Ms' w' ls' ∧ InC m2 Ms' w' ls' ∧ InM m2 Ms' w' ls' :=
  lw_gen (κ := fun e => nI (3 - e)) (c := fun m => F_X7_least N m a1) (d := fun m => F_X8_least N m a1) (S := [1, 2]) (wr := fun m => F_L_least N m a1) (φ := fun r => r) (sim_least (by omega) a1 Ms w ls hV) ex_F_X7_least (by
    show F_L_least N m a1 = _
    unfold F_L_least
    exact calw_main) (fun x hx => by
    have : x = 1 ∨ x = 2 := by simpa using hx
    rcases this with rfl | rfl <;> exact fun m => rfl) (fun x hx => by
    have : x = 1 ∨ x = 2 := by simpa using hx
    rcases this with rfl | rfl
    · exact fun h => absurd (show nI 2 = nI 0 from h) (by decide)
    · exact fun h => absurd (show nI 1 = nI 0 from h) (by decide)) hC hM
theorem lw_meet {N : Nat} {m : Mem} {Ms : List Ma} {w : List Nat} {ls : Ls} (hN : 2000000000000 < N) (hV : InV Ms w ls) (hC : InC m Ms w ls) (hM : InM m Ms w ls) (a1 : Int32) (a2 : Int32) (a3 : Bool) :
    ∃ k m1 b m2 Ms' w' ls', F_L_meet N m a1 a2 (bI a3) = some (k, m1) ∧ F_X8_meet N m1 a1 a2 (bI a3) = some (b, m2) ∧ m2 70 0 = k ∧ (k = nI 0 → m2 108 0 = b) ∧ InV Ms' w' ls' ∧ InC m2 Ms' w' ls' ∧ InM m2 Ms' w' ls' :=
  lw_gen (κ := fun e => nI (3 - e)) (c := fun m => F_X7_meet N m a1 a2 (bI a3)) (d := fun m => F_X8_meet N m a1 a2 (bI a3)) (S := [1, 2]) (wr := fun m => F_L_meet N m a1 a2 (bI a3)) (φ := fun r => r) (sim_meet (by omega) a1 a2 a3 Ms w ls hV) ex_F_X7_meet (by
    show F_L_meet N m a1 a2 (bI a3) = _
    unfold F_L_meet
    exact calw_main) (fun x hx => by
    have : x = 1 ∨ x = 2 := by simpa using hx
    rcases this with rfl | rfl <;> exact fun m => rfl) (fun x hx => by
    have : x = 1 ∨ x = 2 := by simpa using hx
    rcases this with rfl | rfl
    · exact fun h => absurd (show nI 2 = nI 0 from h) (by decide)
    · exact fun h => absurd (show nI 1 = nI 0 from h) (by decide)) hC hM
theorem lw_rule {N : Nat} {m : Mem} {Ms : List Ma} {w : List Nat} {ls : Ls} (hN : 2000000000000 < N) (hV : InV Ms w ls) (hC : InC m Ms w ls) (hM : InM m Ms w ls) (a1 : Int32) (a2 : Int32) (a3 : Int32) (a4 : Int32) (a5 : Bool) :
    ∃ k m1 b m2 Ms' w' ls', F_L_rule N m a1 a2 a3 a4 (bI a5) = some (k, m1) ∧ F_X8_rule N m1 a1 a2 a3 a4 (bI a5) = some (b, m2) ∧ m2 70 0 = k ∧ (k = nI 0 → m2 108 0 = b) ∧ InV Ms' w' ls' ∧ InC m2 Ms' w' ls' ∧ InM m2 Ms' w' ls' :=
  lw_gen (κ := fun e => nI (e + 1)) (c := fun m => F_X7_rule N m a1 a2 a3 a4 (bI a5)) (d := fun m => F_X8_rule N m a1 a2 a3 a4 (bI a5)) (S := [0, 1]) (wr := fun m => F_L_rule N m a1 a2 a3 a4 (bI a5)) (φ := fun r => r) (sim_rule (by omega) a1 a2 a3 a4 a5 Ms w ls hV) ex_F_X7_rule (by
    show F_L_rule N m a1 a2 a3 a4 (bI a5) = _
    unfold F_L_rule
    exact calw_main) (fun x hx => by
    have : x = 0 ∨ x = 1 := by simpa using hx
    rcases this with rfl | rfl <;> exact fun m => rfl) (fun x hx => by
    have : x = 0 ∨ x = 1 := by simpa using hx
    rcases this with rfl | rfl
    · exact fun h => absurd (show nI 1 = nI 0 from h) (by decide)
    · exact fun h => absurd (show nI 2 = nI 0 from h) (by decide)) hC hM
theorem lw_size {N : Nat} {m : Mem} {Ms : List Ma} {w : List Nat} {ls : Ls} (hN : 2000000000000 < N) (hV : InV Ms w ls) (hC : InC m Ms w ls) (hM : InM m Ms w ls) (a1 : Int32) :
    ∃ k m1 b m2 Ms' w' ls', F_L_size N m a1 = some (k, m1) ∧ F_X8_size N m1 a1 = some (b, m2) ∧ m2 70 0 = k ∧ (k = nI 0 → m2 108 0 = b) ∧ InV Ms' w' ls' ∧ InC m2 Ms' w' ls' ∧ InM m2 Ms' w' ls' :=
  lw_gen (κ := fun e => nI (3 - e)) (c := fun m => F_X7_size N m a1) (d := fun m => F_X8_size N m a1) (S := [2]) (wr := fun m => F_L_size N m a1) (φ := fun r => r) (sim_size a1 Ms w ls hV) ex_F_X7_size (by
    show F_L_size N m a1 = _
    unfold F_L_size
    exact calw_main) (fun x hx => by
    have : x = 2 := by simpa using hx
    subst this <;> exact fun m => rfl) (fun x hx => by
    have : x = 2 := by simpa using hx
    subst this
    · exact fun h => absurd (show nI 1 = nI 0 from h) (by decide)) hC hM
theorem lw_isEnd {N : Nat} {m : Mem} {Ms : List Ma} {w : List Nat} {ls : Ls} (hN : 2000000000000 < N) (hV : InV Ms w ls) (hC : InC m Ms w ls) (hM : InM m Ms w ls) (a1 : Int32) (a2 : Int32) :
    ∃ k m1 b m2 Ms' w' ls', F_L_isEnd N m a1 a2 = some (k, m1) ∧ F_X8_isEnd N m1 a1 a2 = some (b, m2) ∧ m2 70 0 = k ∧ (k = nI 0 → m2 108 0 = (if b = nI 0 then nI 0 else nI 1)) ∧ InV Ms' w' ls' ∧ InC m2 Ms' w' ls' ∧ InM m2 Ms' w' ls' :=
  lw_gen (κ := fun e => nI (3 - e)) (c := fun m => F_X7_isEnd N m a1 a2) (d := fun m => F_X8_isEnd N m a1 a2) (S := [2]) (wr := fun m => F_L_isEnd N m a1 a2) (φ := fun r => if r = nI 0 then nI 0 else nI 1) (sim_isEnd a1 a2 Ms w ls hV) ex_F_X7_isEnd (by
    show F_L_isEnd N m a1 a2 = _
    unfold F_L_isEnd
    exact calw_bool) (fun x hx => by
    have : x = 2 := by simpa using hx
    subst this <;> exact fun m => rfl) (fun x hx => by
    have : x = 2 := by simpa using hx
    subst this
    · exact fun h => absurd (show nI 1 = nI 0 from h) (by decide)) hC hM
theorem lw_arc {N : Nat} {m : Mem} {Ms : List Ma} {w : List Nat} {ls : Ls} (hN : 2000000000000 < N) (hV : InV Ms w ls) (hC : InC m Ms w ls) (hM : InM m Ms w ls) (a1 : Int32) (a2 : Int32) (a3 : Int32) :
    ∃ k m1 b m2 Ms' w' ls', F_L_arc N m a1 a2 a3 = some (k, m1) ∧ F_X8_arc N m1 a1 a2 a3 = some (b, m2) ∧ m2 70 0 = k ∧ (k = nI 0 → m2 108 0 = b) ∧ InV Ms' w' ls' ∧ InC m2 Ms' w' ls' ∧ InM m2 Ms' w' ls' :=
  lw_gen (κ := fun e => nI (if e = 2 then 1 else 2)) (c := fun m => F_X7_arc N m a1 a2 a3) (d := fun m => F_X8_arc N m a1 a2 a3) (S := [0, 2]) (wr := fun m => F_L_arc N m a1 a2 a3) (φ := fun r => r) (sim_arc a1 a2 a3 Ms w ls hV) ex_F_X7_arc (by
    show F_L_arc N m a1 a2 a3 = _
    unfold F_L_arc
    exact calw_main) (fun x hx => by
    have : x = 0 ∨ x = 2 := by simpa using hx
    rcases this with rfl | rfl <;> exact fun m => rfl) (fun x hx => by
    have : x = 0 ∨ x = 2 := by simpa using hx
    rcases this with rfl | rfl
    · exact fun h => absurd (show nI 2 = nI 0 from h) (by decide)
    · exact fun h => absurd (show nI 1 = nI 0 from h) (by decide)) hC hM
theorem lw_isPlain {N : Nat} {m : Mem} {Ms : List Ma} {w : List Nat} {ls : Ls} (hN : 2000000000000 < N) (hV : InV Ms w ls) (hC : InC m Ms w ls) (hM : InM m Ms w ls) (a1 : Int32) :
    ∃ k m1 b m2 Ms' w' ls', F_L_isPlain N m a1 = some (k, m1) ∧ F_X8_isPlain N m1 a1 = some (b, m2) ∧ m2 70 0 = k ∧ (k = nI 0 → m2 108 0 = (if b = nI 0 then nI 0 else nI 1)) ∧ InV Ms' w' ls' ∧ InC m2 Ms' w' ls' ∧ InM m2 Ms' w' ls' :=
  lw_gen (κ := fun e => nI (3 - e)) (c := fun m => F_X7_isPlain N m a1) (d := fun m => F_X8_isPlain N m a1) (S := [2]) (wr := fun m => F_L_isPlain N m a1) (φ := fun r => if r = nI 0 then nI 0 else nI 1) (sim_isPlain (by omega) a1 Ms w ls hV) ex_F_X7_isPlain (by
    show F_L_isPlain N m a1 = _
    unfold F_L_isPlain
    exact calw_bool) (fun x hx => by
    have : x = 2 := by simpa using hx
    subst this <;> exact fun m => rfl) (fun x hx => by
    have : x = 2 := by simpa using hx
    subst this
    · exact fun h => absurd (show nI 1 = nI 0 from h) (by decide)) hC hM
theorem lw_answer {N : Nat} {m : Mem} {Ms : List Ma} {w : List Nat} {ls : Ls} (hN : 2000000000000 < N) (hV : InV Ms w ls) (hC : InC m Ms w ls) (hM : InM m Ms w ls) (a1 : Int32) (a2 : Bool) (a3 : Int32) (a4 : Int32) :
    ∃ k m1 b m2 Ms' w' ls', F_L_answer N m a1 (bI a2) a3 a4 = some (k, m1) ∧ F_X8_answer N m1 a1 (bI a2) a3 a4 = some (b, m2) ∧ m2 70 0 = k ∧ (k = nI 0 → m2 108 0 = b) ∧ InV Ms' w' ls' ∧ InC m2 Ms' w' ls' ∧ InM m2 Ms' w' ls' :=
  lw_gen (κ := fun e => nI (if e = 2 then 1 else 2)) (c := fun m => F_X7_answer N m a1 (bI a2) a3 a4) (d := fun m => F_X8_answer N m a1 (bI a2) a3 a4) (S := [0, 2]) (wr := fun m => F_L_answer N m a1 (bI a2) a3 a4) (φ := fun r => r) (sim_answer (by omega) a1 a2 a3 a4 Ms w ls hV) ex_F_X7_answer (by
    show F_L_answer N m a1 (bI a2) a3 a4 = _
    unfold F_L_answer
    exact calw_main) (fun x hx => by
    have : x = 0 ∨ x = 2 := by simpa using hx
    rcases this with rfl | rfl <;> exact fun m => rfl) (fun x hx => by
    have : x = 0 ∨ x = 2 := by simpa using hx
    rcases this with rfl | rfl
    · exact fun h => absurd (show nI 2 = nI 0 from h) (by decide)
    · exact fun h => absurd (show nI 1 = nI 0 from h) (by decide)) hC hM
theorem lw_answers {N : Nat} {m : Mem} {Ms : List Ma} {w : List Nat} {ls : Ls} (hN : 2000000000000 < N) (hV : InV Ms w ls) (hC : InC m Ms w ls) (hM : InM m Ms w ls) (a1 : Int32) (a2 : Bool) :
    ∃ k m1 b m2 Ms' w' ls', F_L_answers N m a1 (bI a2) = some (k, m1) ∧ F_X8_answers N m1 a1 (bI a2) = some (b, m2) ∧ m2 70 0 = k ∧ (k = nI 0 → m2 108 0 = b) ∧ InV Ms' w' ls' ∧ InC m2 Ms' w' ls' ∧ InM m2 Ms' w' ls' :=
  lw_gen (κ := fun e => nI (3 - e)) (c := fun m => F_X7_answers N m a1 (bI a2)) (d := fun m => F_X8_answers N m a1 (bI a2)) (S := [2]) (wr := fun m => F_L_answers N m a1 (bI a2)) (φ := fun r => r) (sim_answers (by omega) a1 a2 Ms w ls hV) ex_F_X7_answers (by
    show F_L_answers N m a1 (bI a2) = _
    unfold F_L_answers
    exact calw_main) (fun x hx => by
    have : x = 2 := by simpa using hx
    subst this <;> exact fun m => rfl) (fun x hx => by
    have : x = 2 := by simpa using hx
    subst this
    · exact fun h => absurd (show nI 1 = nI 0 from h) (by decide)) hC hM
theorem lw_cost {N : Nat} {m : Mem} {Ms : List Ma} {w : List Nat} {ls : Ls} (hN : 2000000000000 < N) (hV : InV Ms w ls) (hC : InC m Ms w ls) (hM : InM m Ms w ls) (a1 : Int32) (a2 : Bool) :
    ∃ k m1 b m2 Ms' w' ls', F_L_cost N m a1 (bI a2) = some (k, m1) ∧ F_X8_cost N m1 a1 (bI a2) = some (b, m2) ∧ m2 70 0 = k ∧ (k = nI 0 → m2 108 0 = b) ∧ InV Ms' w' ls' ∧ InC m2 Ms' w' ls' ∧ InM m2 Ms' w' ls' :=
  lw_gen (κ := fun e => nI (3 - e)) (c := fun m => F_X7_cost N m a1 (bI a2)) (d := fun m => F_X8_cost N m a1 (bI a2)) (S := [2]) (wr := fun m => F_L_cost N m a1 (bI a2)) (φ := fun r => r) (sim_cost (by omega) a1 a2 Ms w ls hV) ex_F_X7_cost (by
    show F_L_cost N m a1 (bI a2) = _
    unfold F_L_cost
    exact calw_main) (fun x hx => by
    have : x = 2 := by simpa using hx
    subst this <;> exact fun m => rfl) (fun x hx => by
    have : x = 2 := by simpa using hx
    subst this
    · exact fun h => absurd (show nI 1 = nI 0 from h) (by decide)) hC hM
theorem lw_best {N : Nat} {m : Mem} {Ms : List Ma} {w : List Nat} {ls : Ls} (hN : 2000000000000 < N) (hV : InV Ms w ls) (hC : InC m Ms w ls) (hM : InM m Ms w ls) (a1 : Int32) (a2 : Bool) (a3 : Int32) :
    ∃ k m1 b m2 Ms' w' ls', F_L_best N m a1 (bI a2) a3 = some (k, m1) ∧ F_X8_best N m1 a1 (bI a2) a3 = some (b, m2) ∧ m2 70 0 = k ∧ (k = nI 0 → m2 108 0 = b) ∧ InV Ms' w' ls' ∧ InC m2 Ms' w' ls' ∧ InM m2 Ms' w' ls' :=
  lw_gen (κ := fun e => nI (3 - e)) (c := fun m => F_X7_best N m a1 (bI a2) a3) (d := fun m => F_X8_best N m a1 (bI a2) a3) (S := [2]) (wr := fun m => F_L_best N m a1 (bI a2) a3) (φ := fun r => r) (sim_best (by omega) a1 a2 a3 Ms w ls hV) ex_F_X7_best (by
    show F_L_best N m a1 (bI a2) a3 = _
    unfold F_L_best
    exact calw_main) (fun x hx => by
    have : x = 2 := by simpa using hx
    subst this <;> exact fun m => rfl) (fun x hx => by
    have : x = 2 := by simpa using hx
    subst this
    · exact fun h => absurd (show nI 1 = nI 0 from h) (by decide)) hC hM
theorem lw_changes {N : Nat} {m : Mem} {Ms : List Ma} {w : List Nat} {ls : Ls} (hN : 2000000000000 < N) (hV : InV Ms w ls) (hC : InC m Ms w ls) (hM : InM m Ms w ls) (a1 : Int32) :
    ∃ k m1 b m2 Ms' w' ls', F_L_changes N m a1 = some (k, m1) ∧ F_X8_changes N m1 a1 = some (b, m2) ∧ m2 70 0 = k ∧ (k = nI 0 → m2 108 0 = b) ∧ InV Ms' w' ls' ∧ InC m2 Ms' w' ls' ∧ InM m2 Ms' w' ls' :=
  lw_gen (κ := fun e => nI (3 - e)) (c := fun m => F_X7_changes N m a1) (d := fun m => F_X8_changes N m a1) (S := [2]) (wr := fun m => F_L_changes N m a1) (φ := fun r => r) (sim_changes (by omega) a1 Ms w ls hV) ex_F_X7_changes (by
    show F_L_changes N m a1 = _
    unfold F_L_changes
    exact calw_main) (fun x hx => by
    have : x = 2 := by simpa using hx
    subst this <;> exact fun m => rfl) (fun x hx => by
    have : x = 2 := by simpa using hx
    subst this
    · exact fun h => absurd (show nI 1 = nI 0 from h) (by decide)) hC hM
theorem lw_mended {N : Nat} {m : Mem} {Ms : List Ma} {w : List Nat} {ls : Ls} (hN : 2000000000000 < N) (hV : InV Ms w ls) (hC : InC m Ms w ls) (hM : InM m Ms w ls) (a1 : Int32) (a2 : Int32) :
    ∃ k m1 b m2 Ms' w' ls', F_L_mended N m a1 a2 = some (k, m1) ∧ F_X8_mended N m1 a1 a2 = some (b, m2) ∧ m2 70 0 = k ∧ (k = nI 0 → m2 108 0 = b) ∧ InV Ms' w' ls' ∧ InC m2 Ms' w' ls' ∧ InM m2 Ms' w' ls' :=
  lw_gen (κ := fun e => nI (3 - e)) (c := fun m => F_X7_mended N m a1 a2) (d := fun m => F_X8_mended N m a1 a2) (S := [2]) (wr := fun m => F_L_mended N m a1 a2) (φ := fun r => r) (sim_mended (by omega) a1 a2 Ms w ls hV) ex_F_X7_mended (by
    show F_L_mended N m a1 a2 = _
    unfold F_L_mended
    exact calw_main) (fun x hx => by
    have : x = 2 := by simpa using hx
    subst this <;> exact fun m => rfl) (fun x hx => by
    have : x = 2 := by simpa using hx
    subst this
    · exact fun h => absurd (show nI 1 = nI 0 from h) (by decide)) hC hM
theorem lw_apart {N : Nat} {m : Mem} {Ms : List Ma} {w : List Nat} {ls : Ls} (hN : 2000000000000 < N) (hV : InV Ms w ls) (hC : InC m Ms w ls) (hM : InM m Ms w ls) (a1 : Int32) (a2 : Int32) (a3 : Int32) :
    ∃ k m1 b m2 Ms' w' ls', F_L_apart N m a1 a2 a3 = some (k, m1) ∧ F_X8_apart N m1 a1 a2 a3 = some (b, m2) ∧ m2 70 0 = k ∧ (k = nI 0 → m2 108 0 = b) ∧ InV Ms' w' ls' ∧ InC m2 Ms' w' ls' ∧ InM m2 Ms' w' ls' :=
  lw_gen (κ := fun e => nI (3 - e)) (c := fun m => F_X7_apart N m a1 a2 a3) (d := fun m => F_X8_apart N m a1 a2 a3) (S := [1, 2]) (wr := fun m => F_L_apart N m a1 a2 a3) (φ := fun r => r) (sim_apart (by omega) a1 a2 a3 Ms w ls hV) ex_F_X7_apart (by
    show F_L_apart N m a1 a2 a3 = _
    unfold F_L_apart
    exact calw_main) (fun x hx => by
    have : x = 1 ∨ x = 2 := by simpa using hx
    rcases this with rfl | rfl <;> exact fun m => rfl) (fun x hx => by
    have : x = 1 ∨ x = 2 := by simpa using hx
    rcases this with rfl | rfl
    · exact fun h => absurd (show nI 2 = nI 0 from h) (by decide)
    · exact fun h => absurd (show nI 1 = nI 0 from h) (by decide)) hC hM
theorem lw_ruled {N : Nat} {m : Mem} {Ms : List Ma} {w : List Nat} {ls : Ls} (hN : 2000000000000 < N) (hV : InV Ms w ls) (hC : InC m Ms w ls) (hM : InM m Ms w ls) (a1 : Int32) (a2 : Int32) (a3 : Int32) (a4 : Int32) (a5 : Int32) :
    ∃ k m1 b m2 Ms' w' ls', F_L_ruled N m a1 a2 a3 a4 a5 = some (k, m1) ∧ F_X8_ruled N m1 a1 a2 a3 a4 a5 = some (b, m2) ∧ m2 70 0 = k ∧ (k = nI 0 → m2 108 0 = b) ∧ InV Ms' w' ls' ∧ InC m2 Ms' w' ls' ∧ InM m2 Ms' w' ls' :=
  lw_gen (κ := fun e => nI (if e = 2 then 1 else 2)) (c := fun m => F_X7_ruled N m a1 a2 a3 a4 a5) (d := fun m => F_X8_ruled N m a1 a2 a3 a4 a5) (S := [0, 2]) (wr := fun m => F_L_ruled N m a1 a2 a3 a4 a5) (φ := fun r => r) (sim_ruled (by omega) a1 a2 a3 a4 a5 Ms w ls hV) ex_F_X7_ruled (by
    show F_L_ruled N m a1 a2 a3 a4 a5 = _
    unfold F_L_ruled
    exact calw_main) (fun x hx => by
    have : x = 0 ∨ x = 2 := by simpa using hx
    rcases this with rfl | rfl <;> exact fun m => rfl) (fun x hx => by
    have : x = 0 ∨ x = 2 := by simpa using hx
    rcases this with rfl | rfl
    · exact fun h => absurd (show nI 2 = nI 0 from h) (by decide)
    · exact fun h => absurd (show nI 1 = nI 0 from h) (by decide)) hC hM
theorem lw_learn {N : Nat} {m : Mem} {Ms : List Ma} {w : List Nat} {ls : Ls} (hN : 2000000000000 < N) (hV : InV Ms w ls) (hC : InC m Ms w ls) (hM : InM m Ms w ls) (a1 : Int32) :
    ∃ k m1 b m2 Ms' w' ls', F_L_learn N m a1 = some (k, m1) ∧ F_X8_learn N m1 a1 = some (b, m2) ∧ m2 70 0 = k ∧ (k = nI 0 → m2 108 0 = b) ∧ InV Ms' w' ls' ∧ InC m2 Ms' w' ls' ∧ InM m2 Ms' w' ls' :=
  lw_gen (κ := fun e => nI (e + 1)) (c := fun m => F_X7_learn N m a1) (d := fun m => F_X8_learn N m a1) (S := [0, 1]) (wr := fun m => F_L_learn N m a1) (φ := fun r => r) (sim_learn (by omega) a1 Ms w ls hV) ex_F_X7_learn (by
    show F_L_learn N m a1 = _
    unfold F_L_learn
    exact calw_main) (fun x hx => by
    have : x = 0 ∨ x = 1 := by simpa using hx
    rcases this with rfl | rfl <;> exact fun m => rfl) (fun x hx => by
    have : x = 0 ∨ x = 1 := by simpa using hx
    rcases this with rfl | rfl
    · exact fun h => absurd (show nI 1 = nI 0 from h) (by decide)
    · exact fun h => absurd (show nI 2 = nI 0 from h) (by decide)) hC hM
