theorem reA_inj {n : Nat} {Q : List Nat} {a b : Nat × Nat} (ha : AOK n a) (hb : AOK n b) (hQ : Q.length ≤ 1024) (ha1 : fr a.1 ∈ Q) (ha2 : too a.1 ∈ Q) (hb1 : fr b.1 ∈ Q) (hb2 : too b.1 ∈ Q) (h : (reA Q a).1 = (reA Q b).1) : a.1 = b.1 := by
  have x1 := ixo_lt ha1
  have x2 := ixo_lt ha2
  have x3 := ixo_lt hb1
  have x4 := ixo_lt hb2
  have h : pkA (ixo Q (fr a.1)) (upr a.1) (lwr a.1) (ixo Q (too a.1)) = pkA (ixo Q (fr b.1)) (upr b.1) (lwr b.1) (ixo Q (too b.1)) := h
  have u1 := ha.2.2.2.1
  have l1 := ha.2.2.2.2.1
  have u2 := hb.2.2.2.1
  have l2 := hb.2.2.2.2.1
  unfold pkA at h
  have e1 : ixo Q (fr a.1) = ixo Q (fr b.1) := by omega
  have e2 : upr a.1 = upr b.1 := by omega
  have e3 : lwr a.1 = lwr b.1 := by omega
  have e4 : ixo Q (too a.1) = ixo Q (too b.1) := by omega
  have e5 := ixo_inj ha1 hb1 e1
  have e6 := ixo_inj ha2 hb2 e4
  rw [← pkA_eta a.1, ← pkA_eta b.1, e2, e3, e5, e6]
theorem outA_mem {n : Nat} {D : ArL} {W Q : List Nat} (hok : DOK n D) (hQ : Q.length ≤ 1024) (hm : ∀ q, q ∈ usA D W → fr q.1 ∈ Q ∧ too q.1 ∈ Q) (q : Nat × Nat) : q ∈ insL ((usA D W).map (reA Q)) [] ↔ q ∈ (usA D W).map (reA Q) := by
  refine ((Cn.ofL _).2 q.1 q.2).trans ⟨fun h => h.1, fun h => ⟨h, ?_⟩⟩
  intro k' hk'
  obtain ⟨a, ha, ea⟩ := List.mem_map.mp h
  obtain ⟨b, hb, eb⟩ := List.mem_map.mp hk'
  have h1 := reA_inj (usA_ok (W := W) hok a ha) (usA_ok (W := W) hok b hb) hQ (hm a ha).1 (hm a ha).2 (hm b hb).1 (hm b hb).2 (by rw [ea, eb])
  have h2 : a.2 = b.2 := Srt.inj (insL_srt _) (p := a.1) ha (by rw [h1]; exact hb)
  have e1 : a.2 = q.2 := by rw [← ea]; rfl
  have e2 : b.2 = k' := congrArg Prod.snd eb
  omega
theorem mw_keeps {N c st n : Nat} {E : Nat → Bool} {D Z : ArL} {W : List Nat} {m : Mem} (hN : 40000 < N) (hok : DOK n D) (hbig : ¬ tooBig D W) (hQl : (outQ D W st).length ≤ 1024) (hQ : ∀ q, q ∈ usA D W → fr q.1 ∈ outQ D W st ∧ too q.1 ∈ outQ D W st) (hZ : Z.Nodup) (hZU : ∀ q, q ∈ Z ↔ q ∈ usA D W) (hR : R5 m (Z.map (reA (outQ D W st)))) (hc : c < 24) (h11 : m 70 11 = nI c) (h20 : m 70 20 = nI (outQ D W st).length) (h27 : m 70 27 = outE E D W st) :
    ∃ m1 m', Fx 87 92 [] m m1 ∧ FrK c m1 m' ∧ F_X8_keeps N m = some (nI c, m') ∧ MM m' c (outQ D W st).length (outE E D W st) (outA D W st) ∧ m' 70 11 = nI (c + 1) := by
  have hUl : (usA D W).length ≤ 160 := by
    rcases Nat.lt_or_ge 160 (usA D W).length with h | h
    · exact absurd (Or.inr h) hbig
    · exact h
  have hZl := nodup_leA Z (usA D W) hZ (fun q hq => (hZU q).mp hq)
  have hok2 := usA_ok (W := W) hok
  obtain ⟨m1, L, k1, k2, k3, k4, k5, f, k6⟩ := keep_out hN (by rw [List.length_map]; omega) hR (by
    intro q hq
    obtain ⟨a, ha, rfl⟩ := List.mem_map.mp hq
    have ha2 := (hZU a).mp ha
    exact (reA_ok (hok2 a ha2) (hQ a ha2).1 (hQ a ha2).2 hQl).1) (by
    refine List.pairwise_map.mpr (hZ.imp_of_mem ?_)
    intro a b ha hb hab e
    have ha2 := (hZU a).mp ha
    have hb2 := (hZU b).mp hb
    have h1 := reA_inj (hok2 a ha2) (hok2 b hb2) hQl (hQ a ha2).1 (hQ a ha2).2 (hQ b hb2).1 (hQ b hb2).2 e
    have h2 : a.2 = b.2 := Srt.inj (insL_srt _) (p := a.1) ha2 (by rw [h1]; exact hb2)
    exact hab (Prod.ext h1 h2))
  have hLA : L = outA D W st := by
    refine srt_ext _ _ k1 (insL_srt _) ?_
    intro q
    rw [k2, outA_mem hok hQl hQ, List.mem_map, List.mem_map]
    exact ⟨fun ⟨a, ha, e⟩ => ⟨a, (hZU a).mp ha, e⟩, fun ⟨a, ha, e⟩ => ⟨a, (hZU a).mpr ha, e⟩⟩
  rw [List.length_map] at k3 k6
  obtain ⟨m', p1, p2, p3, p4⟩ := keep_copy (e := outE E D W st) hN (by omega) k4 hc (by rw [k5.2 11 (by simp)]; exact h11) (by rw [k5.2 20 (by simp)]; exact h20) (by rw [k5.2 27 (by simp)]; exact h27) f (max 1 Z.length) (by omega) (by omega)
  exact ⟨m1, m', k5, p4, by rw [k6]; exact p1, by rw [← hLA]; exact p2, p3⟩
