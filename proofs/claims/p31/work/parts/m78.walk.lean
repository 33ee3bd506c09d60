set_option maxRecDepth 100000 in
/-- the walk, as far as the programs: what is left is that the law's program answers 1 -/
theorem whole_walk {p : Program} {e : Env} {s : State} {m : MethodId} {below : List Frame} {meth : Method} {c : Code} (l : Launch) (hflags : l.flags = flags0) {b L : Nat} {xs : Nat → Int32} (C0 : lw_At p s m meth c b L xs) {Nf : Nat} {m' : Mem} (hpure : F_L_law Nf L xs mem0 = some (1, m')) : W p l e room_1 s m #[Value.ref b] below meth c s.heap [] 0 0 (lw_Z below #[Value.ref b] s) (entryFrame m ([Value.ref b] : List Value).toArray 19) := by
  obtain ⟨hx, hb, hr, hml, hown, hts, hX, hbl, hlocks, hgv⟩ := id C0
  have hg := flat_of_before _ hgv
  obtain ⟨dC, dI, hKn⟩ := known_all hts
  obtain ⟨cT, hAr⟩ := arr_all hts
  have had : adC (g0 dC dI cT s.heap.size) := ⟨s.heap.size, fun _ => rfl⟩
  have hGO : GOC (g0 dC dI cT s.heap.size) s := ⟨⟨hKn, hAr⟩, nest_all hts, words_all hts, va_AO.of (hts (.arrayOver (.object RX3)) (List.mem_of_getElem? (i := 79) rfl))⟩
  have hlow : ∀ q, frX (g1 dC dI cT s.heap.size) s.heap.size q → s.heap.size ≤ q := fun q hq => hq.elim (fun ⟨k, _, e⟩ => by rw [e]; exact Nat.le_add_right _ _) (fun h => h)
  have htr : l.stackTraces = false := by rw [Launch.stackTraces, hflags]; decide
  have hGX : GX (frX (g1 dC dI cT s.heap.size) s.heap.size) s s.heap := gx_start hts hg (fun a ha hq => absurd (hlow a hq) (Nat.not_le.mpr ha))
  have hAq : ∀ q, frD (g0 dC dI cT s.heap.size) q → frX (g1 dC dI cT s.heap.size) s.heap.size q := fun q hq => Or.inr hq
  have hK : KOC (p, l, e, room_1, s, m, #[Value.ref b], below, meth, c, g0 dC dI cT s.heap.size, frX (g1 dC dI cT s.heap.size) s.heap.size, lw_Z below #[Value.ref b] s) cL_law 19 RL wsL_law 11 600086 7301442 248 0 :=
    ⟨hx, hb, hml, hown, fun w hw => hts w (wsL_law_in w hw), hGO, hlocks, ⟨by decide, by decide, by decide, by decide⟩, had, fun i => Or.inr (Nat.le_add_right _ _), rfl⟩
  have hl := lv_entry ([.ref b]) (n := 19) (Nat.le_of_ble_eq_true rfl)
  rw [lg_entry_eq]
  suffices hAC : AC (p, l, e, room_1, s, m, #[Value.ref b], below, meth, c, g0 dC dI cT s.heap.size, frX (g1 dC dI cT s.heap.size) s.heap.size, lw_Z below #[Value.ref b] s) 0 0 0 [(0, q_v (.ref b))] [] (fun _ => [] ++ []) from
    hAC s.heap [] _ (fun k q h => by simp [wsC] at h) va_S.rf (by rw [hml]; exact hl)
  refine al_new hK (ci := 7) (ty := tyX7) (p := 0) (pre := fun _ => []) (cl := fun _ => []) (fun _ => rfl) [.null, .int 0, .null, .int 0, .null, .null, .null, .null] 0 (fun _ => rfl) rfl rfl tyX7_ok (List.mem_of_getElem? (i := 0) rfl) (List.mem_of_getElem? (i := 1) rfl) (List.mem_of_getElem? (i := 2) rfl) (by decide) (Nat.le_of_ble_eq_true rfl) (Nat.le_of_ble_eq_true rfl) dL_law_0 ?_
  refine ac_dup hK rfl dL_law_3 ?_
  refine al_ciP (p := 0) (pre := fun _ => []) (cl := fun _ => []) hK hAq td_X7_init (fun _ => rfl) 0 (fun _ => rfl) rfl gL_law_X7_init rfl (List.mem_of_getElem? (i := 2) rfl) (List.mem_of_getElem? (i := 7) rfl) (List.mem_of_getElem? (i := 8) rfl) rfl (by decide +kernel) ⟨by decide, by decide⟩ (Nat.le_of_ble_eq_true rfl) (Nat.le_of_ble_eq_true rfl) (Nat.le_of_ble_eq_true rfl) dL_law_4 ?_
  refine ac_cw (cw' := fun G => [] ++ cw_X7_init 0 G) (fun _ => rfl) ?_
  refine ac_astore_n hK [(1, q_r 0), (0, q_v (.ref b))] (by decide) rfl dL_law_7 ?_
  refine ac_bipush hK (8) rfl dL_law_8 ?_
  refine al_newa (p := 0) (pre := fun _ => []) (cl := fun G => cw_X7_init 0 G) hK (fun _ => rfl) 0 (a0 := (8, .inl (fun _ => 0))) 8 148 (fun _ => rfl) rfl (List.mem_of_getElem? (i := 3) rfl) rfl (fun _ => rfl) (fun _ _ h => h) (fun _ => rfl) (by decide) (by decide) (by decide) (Nat.le_of_ble_eq_true rfl) (Nat.le_of_ble_eq_true rfl) dL_law_10 ?_
  refine ac_cw (cw' := clF) (fun _ => rfl) ?_
  refine ac_astore_n hK [(2, q_r 148), (1, q_r 0), (0, q_v (.ref b))] (by decide) rfl dL_law_12 ?_
  intro H locs ls hP hS hl
  have hP1 := start_world hP
  have hK1 : KOK (p, l, e, room_1, s, m, #[Value.ref b], below, meth, c, g1 dC dI cT s.heap.size, frX (g1 dC dI cT s.heap.size) s.heap.size, lw_Z below #[Value.ref b] s) cL_law 19 RL wsL_law 11 400000 248 :=
    ⟨hx, hb, hml, hown, fun w hw => hts w (wsL_law_in w hw), GOK_start hGO, hlocks, ⟨by decide, by decide, by decide, by decide⟩, fun k hk => frX_A hk⟩
  have hKL : KL (p, l, e, room_1, s, m, #[Value.ref b], below, meth, c, g1 dC dI cT s.heap.size, frX (g1 dC dI cT s.heap.size) s.heap.size, lw_Z below #[Value.ref b] s) b L xs :=
    ⟨hX, hbl, fun h => absurd (hlow b h) (Nat.not_le.mpr hbl)⟩
  have hKR : KLr (p, l, e, room_1, s, m, #[Value.ref b], below, meth, c, g1 dC dI cT s.heap.size, frX (g1 dC dI cT s.heap.size) s.heap.size, lw_Z below #[Value.ref b] s) 400000 :=
    ⟨b, rfl, rfl, rfl, rfl, hb, hr, Nat.le_refl _, hlow⟩
  have hAW := en_L_law (N := Nf) hK1 ⟨rfl, htr, hGX⟩ (flg_g1 dC dI cT s.heap.size) hKL hKR (n := 20000) (by decide) hpure
  refine W.widen (k := 20000) (n := 16 * 20000) (by decide) (by decide) (hAW H locs ls hP1 hS ?_)
  exact lv_sub hl [0, 1, 2] rfl
