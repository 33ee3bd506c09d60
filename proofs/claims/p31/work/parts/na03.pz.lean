theorem reA_inj {n : Nat} {Q : List Nat} {a b : Nat × Nat} (ha : AOK n a) (hb : AOK n b) (hQ : Q.length ≤ 1024) (ha1 : fr a.1 ∈ Q) (ha2 : too a.1 ∈ Q) (hb1 : fr b.1 ∈ Q) (hb2 : too b.1 ∈ Q) (h : (reA Q a).1 = (reA Q b).1) : a.1 = b.1 := by
  have x1 := ixo_lt ha1
  have x2 := ixo_lt ha2
  have x3 := ixo_lt hb1
  have x4 := ixo_lt hb2
  have h : pkA (ixo Q (fr a.1)) (upr a.1) (lwr a.1) (ixo Q (too a.1)) = pkA (ixo Q (fr b.1)) (upr b.1) (lwr b.1) (ixo Q (too b.1)) := h
  have u1 := ha.2.2.2.1
  have l1 := ha.2.2.2.2.1
  have u2 := hb.2.2.2.1
  have l2 := hb.2.2.2.2.1
  unfold pkA at h
  have e1 : ixo Q (fr a.1) = ixo Q (fr b.1) := by omega
  have e2 : upr a.1 = upr b.1 := by omega
  have e3 : lwr a.1 = lwr b.1 := by omega
  have e4 : ixo Q (too a.1) = ixo Q (too b.1) := by omega
  have e5 := ixo_inj ha1 hb1 e1
  have e6 := ixo_inj ha2 hb2 e4
  rw [← pkA_eta a.1, ← pkA_eta b.1, e2, e3, e5, e6]
theorem outA_mem {n : Nat} {D : ArL} {W Q : List Nat} (hok : DOK n D) (hQ : Q.length ≤ 1024) (hm : ∀ q, q ∈ usA D W → fr q.1 ∈ Q ∧ too q.1 ∈ Q) (q : Nat × Nat) : q ∈ insL ((usA D W).map (reA Q)) [] ↔ q ∈ (usA D W).map (reA Q) := by
  refine ((Cn.ofL _).2 q.1 q.2).trans ⟨fun h => h.1, fun h => ⟨h, ?_⟩⟩
  intro k' hk'
  obtain ⟨a, ha, ea⟩ := List.mem_map.mp h
  obtain ⟨b, hb, eb⟩ := List.mem_map.mp hk'
  have h1 := reA_inj (usA_ok (W := W) hok a ha) (usA_ok (W := W) hok b hb) hQ (hm a ha).1 (hm a ha).2 (hm b hb).1 (hm b hb).2 (by rw [ea, eb])
  have h2 : a.2 = b.2 := Srt.inj (insL_srt _) (p := a.1) ha (by rw [h1]; exact hb)
  have e1 : a.2 = q.2 := by rw [← ea]; rfl
  have e2 : b.2 = k' := congrArg Prod.snd eb
  omega
