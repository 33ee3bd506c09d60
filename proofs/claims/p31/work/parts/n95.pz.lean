theorem cl_all {D : ArL} {E : Nat → Bool} {n st : Nat} {W Q : List Nat} (hW : WS D E n st W) (hok : DOK n D) (hst : st ∈ Q) (hcl : ∀ s t, s ∈ Q → t ∈ outs (usA D W) s → t ∈ Q) : ∀ s, s ∈ W → s ∈ Q := by
  intro s hs
  have hsw := (hW.2 s).mp hs
  have hb : ∀ x, Rc (aR D) st x → Rc (aR D) st x ∧ (x ∈ W → x ∈ Q) := by
    intro x hx
    refine hx.cl (S := fun x => Rc (aR D) st x ∧ (x ∈ W → x ∈ Q)) ⟨Rc.rf, fun _ => hst⟩ ?_
    rintro x y ⟨h1, h2⟩ hr
    refine ⟨h1.st hr, fun hy => ?_⟩
    obtain ⟨q, hq, e1, e2⟩ := hr
    obtain ⟨_, _, e, he, hE, hre⟩ := (hW.2 y).mp hy
    have hxW : x ∈ W := (hW.2 x).mpr ⟨by rw [← e1]; exact (hok q hq).2.1, h1, e, he, hE, Rc.hd ⟨q, hq, e1, e2⟩ hre⟩
    obtain ⟨k, hk⟩ := usA_has (W := W) hq (by rw [e1]; exact hxW) (by rw [e2]; exact hy)
    exact hcl x y (h2 hxW) ((outs_mem (insL_srt _)).mpr ⟨(q.1, k), hk, e1, e2⟩)
  exact (hb s hsw.2.1).2 hs
theorem srt_nodup {L : ArL} (h : Srt L) : L.Nodup := h.imp (fun {a b} hab e => by rw [e] at hab; exact Nat.lt_irrefl _ hab)
