theorem nodup_leA {α : Type} [DecidableEq α] : ∀ (Q W : List α), Q.Nodup → (∀ x, x ∈ Q → x ∈ W) → Q.length ≤ W.length
  | [], _, _, _ => Nat.zero_le _
  | x :: Q, W, hn, hs => by
    have h1 := List.nodup_cons.mp hn
    have hx : x ∈ W := hs x (List.mem_cons_self ..)
    have h2 := nodup_leA Q (W.erase x) h1.2 (fun y hy => (List.mem_erase_of_ne (fun e => h1.1 (by rw [← e]; exact hy))).mpr (hs y (List.mem_cons_of_mem _ hy)))
    rw [List.length_erase_of_mem hx] at h2
    have h3 := List.length_pos_of_mem hx
    rw [List.length_cons]
    omega
def NM (m : Mem) (Q : List Nat) : Prop := Q.Nodup ∧ (∀ s, s ∈ Q → s < 1024) ∧ (∀ i q, i < 33 → Q[i]? = some q → m 86 i = nI q) ∧ (∀ s, s < 1024 → m 85 s = if s ∈ Q then nI (ixo Q s) else nM) ∧ m 70 20 = nI Q.length
theorem NM.len {m : Mem} {Q : List Nat} (h : NM m Q) : Q.length ≤ 1024 := nodup_bound h.1 h.2.1
theorem NM.cg {m m' : Mem} {Q : List Nat} (h : NM m Q) (h1 : m' 85 = m 85) (h2 : m' 86 = m 86) (h3 : m' 70 20 = m 70 20) : NM m' Q := ⟨h.1, h.2.1, fun i q hi hq => by rw [h2]; exact h.2.2.1 i q hi hq, fun s hs => by rw [h1]; exact h.2.2.2.1 s hs, by rw [h3]; exact h.2.2.2.2⟩
theorem seg_srt {U : ArL} (hs : Srt U) (s : Nat) : Srt (seg U s) := (hs.sublist (List.take_sublist _ _)).sublist (List.drop_sublist _ _)
theorem next_head {D : ArL} {rd us : Nat → Bool} {W : List Nat} {s lim : Nat} {l1 l2 : ArL} {x : Int32} (hW : ∀ t, t ∈ W ↔ rd t = true ∧ us t = true) (hs : s ∈ W) (hseg : seg (usA D W) s = l1 ++ l2) (h1 : ∀ q, q ∈ l1 → q.1 < lim) (h2 : ∀ q, q ∈ l2 → lim ≤ q.1)
    (hx : (x = nM ∧ ∀ q, q ∈ D → ¬ Cand D rd us s lim q) ∨ (∃ w q, x = nI w ∧ w < D.length ∧ D[w]? = some q ∧ Cand D rd us s lim q ∧ ∀ q', q' ∈ D → Cand D rd us s lim q' → q.1 < q'.1 ∨ (q.1 = q'.1 ∧ q.2 ≤ q'.2))) :
    (x = nM ∧ l2 = []) ∨ (∃ w q l3, x = nI w ∧ w < D.length ∧ D[w]? = some q ∧ l2 = q :: l3) := by
  have hU : Srt (usA D W) := insL_srt _
  have hcand : ∀ q, q ∈ l2 → q ∈ D ∧ Cand D rd us s lim q := by
    intro q hq
    have hm := (seg_mem hU).mp (by rw [hseg]; exact List.mem_append.mpr (Or.inr hq) : q ∈ seg (usA D W) s)
    have hu := usA_of hm.1
    exact ⟨hu.1, hm.2, h2 q hq, (hW _).mp hu.2.2⟩
  rcases hx with ⟨rfl, h0⟩ | ⟨w, q, rfl, hw, hq, hc, hmin⟩
  · refine Or.inl ⟨rfl, ?_⟩
    cases l2 with
    | nil => rfl
    | cons y l3 =>
      have := hcand y (List.mem_cons_self ..)
      exact absurd this.2 (h0 y this.1)
  · refine Or.inr ?_
    have hqD := List.mem_of_getElem? hq
    have hqU : q ∈ usA D W := by
      refine ((Cn.ofL _).2 q.1 q.2).mpr ⟨List.mem_filter.mpr ⟨hqD, inW_iff.mpr ⟨by rw [hc.1]; exact hs, (hW _).mpr ⟨hc.2.2.1, hc.2.2.2⟩⟩⟩, ?_⟩
      intro k' hk'
      have hk'D := (List.mem_filter.mp hk').1
      rcases hmin (q.1, k') hk'D ⟨hc.1, hc.2.1, hc.2.2.1, hc.2.2.2⟩ with e | e
      · exact absurd e (Nat.lt_irrefl _)
      · exact e.2
    have hqs : q ∈ seg (usA D W) s := (seg_mem hU).mpr ⟨hqU, hc.1⟩
    rw [hseg] at hqs
    have hq2 : q ∈ l2 := by
      rcases List.mem_append.mp hqs with e | e
      · have := h1 q e
        have := hc.2.1
        omega
      · exact e
    cases l2 with
    | nil => cases hq2
    | cons y l3 =>
      have hy := hcand y (List.mem_cons_self ..)
      have hsrt : Srt (y :: l3) := by
        have := seg_srt hU s
        rw [hseg] at this
        exact this.sublist (List.sublist_append_right _ _)
      have hyq : y = q := by
        rcases List.mem_cons.mp hq2 with e | e
        · exact e.symm
        · have h3 := (List.pairwise_cons.mp hsrt).1 q e
          rcases hmin y hy.1 hy.2 with e2 | e2 <;> omega
      exact ⟨w, q, l3, rfl, hw, hq, by rw [hyq]⟩
def R5 (m : Mem) (M : ArL) : Prop := m 70 26 = nI M.length ∧ ∀ j q, M[j]? = some q → m 87 j = nI (fr q.1) ∧ m 88 j = nI (upr q.1) ∧ m 89 j = nI (lwr q.1) ∧ m 90 j = nI q.2 ∧ m 91 j = nI (too q.1)
theorem R5.cg {m m' : Mem} {M : ArL} (h : R5 m M) (h0 : m' 70 26 = m 70 26) (h1 : m' 87 = m 87) (h2 : m' 88 = m 88) (h3 : m' 89 = m 89) (h4 : m' 90 = m 90) (h5 : m' 91 = m 91) : R5 m' M := ⟨by rw [h0]; exact h.1, fun j q hq => by rw [h1, h2, h3, h4, h5]; exact h.2 j q hq⟩
