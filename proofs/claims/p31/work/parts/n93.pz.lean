def NM (m : Mem) (Q : List Nat) : Prop := Q.Nodup ∧ (∀ s, s ∈ Q → s < 1024) ∧ (∀ i q, i < 33 → Q[i]? = some q → m 86 i = nI q) ∧ (∀ s, s < 1024 → m 85 s = if s ∈ Q then nI (ixo Q s) else nM) ∧ m 70 20 = nI Q.length
theorem NM.len {m : Mem} {Q : List Nat} (h : NM m Q) : Q.length ≤ 1024 := nodup_bound h.1 h.2.1
theorem NM.cg {m m' : Mem} {Q : List Nat} (h : NM m Q) (h1 : m' 85 = m 85) (h2 : m' 86 = m 86) (h3 : m' 70 20 = m 70 20) : NM m' Q := ⟨h.1, h.2.1, fun i q hi hq => by rw [h2]; exact h.2.2.1 i q hi hq, fun s hs => by rw [h1]; exact h.2.2.2.1 s hs, by rw [h3]; exact h.2.2.2.2⟩
theorem seg_srt {U : ArL} (hs : Srt U) (s : Nat) : Srt (seg U s) := (hs.sublist (List.take_sublist _ _)).sublist (List.drop_sublist _ _)
def R5 (m : Mem) (M : ArL) : Prop := m 70 26 = nI M.length ∧ ∀ j q, M[j]? = some q → m 87 j = nI (fr q.1) ∧ m 88 j = nI (upr q.1) ∧ m 89 j = nI (lwr q.1) ∧ m 90 j = nI q.2 ∧ m 91 j = nI (too q.1)
theorem R5.cg {m m' : Mem} {M : ArL} (h : R5 m M) (h0 : m' 70 26 = m 70 26) (h1 : m' 87 = m 87) (h2 : m' 88 = m 88) (h3 : m' 89 = m 89) (h4 : m' 90 = m 90) (h5 : m' 91 = m 91) : R5 m' M := ⟨by rw [h0]; exact h.1, fun j q hq => by rw [h1, h2, h3, h4, h5]; exact h.2 j q hq⟩
