theorem WS.uq {D D' : ArL} {E E' : Nat → Bool} {n n' st : Nat} {W W' : List Nat} (h : WS D E n st W) (h' : WS D' E' n' st W') (hD : ∀ q, q ∈ D ↔ q ∈ D') (hst : st < n) (hst' : st < n') (hok : DOK n D) (hok' : DOK n' D') (hE : ∀ s, s < n → s < n' → E s = E' s) : ∀ s, s ∈ W ↔ s ∈ W' := by
  have ha : ∀ x y, aR D x y ↔ aR D' x y := fun x y => ⟨fun ⟨q, h1, h2⟩ => ⟨q, (hD q).mp h1, h2⟩, fun ⟨q, h1, h2⟩ => ⟨q, (hD q).mpr h1, h2⟩⟩
  have hlt : ∀ (n : Nat) (D : ArL), DOK n D → ∀ s x, s < n → Rc (aR D) s x → x < n := by
    intro n D hok s x hs hx
    refine hx.cl (S := fun x => x < n) hs ?_
    rintro x y _ ⟨q, hq, _, e⟩
    rw [← e]; exact (hok q hq).2.2.1
  intro s
  rw [h.2, h'.2]
  constructor
  · rintro ⟨h1, h2, e, h3, h4, h5⟩
    have k2 : Rc (aR D') st s := h2.mono (fun x y => (ha x y).mp)
    have k5 : Rc (aR D') s e := h5.mono (fun x y => (ha x y).mp)
    have ks := hlt n' D' hok' st s hst' k2
    have ke := hlt n' D' hok' s e ks k5
    exact ⟨ks, k2, e, ke, by rw [← hE e h3 ke]; exact h4, k5⟩
  · rintro ⟨h1, h2, e, h3, h4, h5⟩
    have k2 : Rc (aR D) st s := h2.mono (fun x y => (ha x y).mpr)
    have k5 : Rc (aR D) s e := h5.mono (fun x y => (ha x y).mpr)
    have ks := hlt n D hok st s hst k2
    have ke := hlt n D hok s e ks k5
    exact ⟨ks, k2, e, ke, by rw [hE e ke h3]; exact h4, k5⟩
theorem usA.uq {D D' : ArL} {W W' : List Nat} (hD : ∀ q, q ∈ D ↔ q ∈ D') (hW : ∀ s, s ∈ W ↔ s ∈ W') : usA D W = usA D' W' := by
  refine Cn.uq (S := fun p k => (p, k) ∈ D.filter (inW W)) (Cn.ofL _) ((Cn.ofL _).congr ?_)
  intro p k
  rw [List.mem_filter, List.mem_filter, inW_iff, inW_iff, hD, hW, hW]
theorem big.uq {D D' : ArL} {W W' : List Nat} (hD : ∀ q, q ∈ D ↔ q ∈ D') (hW : ∀ s, s ∈ W ↔ s ∈ W') (hn : W.Nodup) (hn' : W'.Nodup) : tooBig D W ↔ tooBig D' W' := by
  have h1 := nodup_le W W' hn (fun x hx => (hW x).mp hx)
  have h2 := nodup_le W' W hn' (fun x hx => (hW x).mpr hx)
  unfold tooBig
  rw [usA.uq hD hW]
  omega
