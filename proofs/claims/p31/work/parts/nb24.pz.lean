abbrev lsE (d : Nat → Nat → Option Nat) (wa u : Nat → Bool) (c t : Nat) : Nat → Bool := mnE (Ss (dpr d u) wa (t + 2)) wa c
abbrev lsD (d : Nat → Nat → Option Nat) (wa u : Nat → Bool) (c t : Nat) : ArL := mnD (dpr d u) (Ss (dpr d u) wa (t + 2)) c
theorem ls_af {d : Nat → Nat → Option Nat} {wa u : Nat → Bool} {c t : Nat} (hc : c ≤ 200) (hdc : ∀ k x y, k < c → x < 8 → d k x = some y → y < c) : DOK 1024 (lsD d wa u c t) ∧ Acy upr (lsD d wa u c t) ∧ Acy lwr (lsD d wa u c t) := by
  refine AF.all (n := 1024) (ru := fun _ => 0) (rl := fun _ => 0) (by omega) (fun q hq => ?_)
  obtain ⟨k, x, j, hk, hn, hx, hdx, rfl⟩ := mnD_mem.mp hq
  have hj := hdc k x j hk hx (dpr_some.mp hdx).1
  have b1 : Ss (dpr d u) wa (t + 2) k < c := ss_bd hk
  have b2 : Ss (dpr d u) wa (t + 2) j < c := ss_bd hj
  exact ⟨_, x, x, _, 0, rfl, by omega, by omega, by omega, by omega, by omega, fun h => by omega, fun h => by omega⟩
theorem dr_af {d : Nat → Nat → Option Nat} {wa u : Nat → Bool} {c t : Nat} {mem : Nat → Nat} (hF : Fc d wa u c (t + 2) ≤ 32) (hu : UOf d wa c u) (hdc : ∀ k x y, k < c → x < 8 → d k x = some y → y < c) (hm : MemOf d wa u c t mem) : DOK (Fc d wa u c (t + 2)) (drD d (Gs d wa u (t + 2)) mem (Fc d wa u c (t + 2))) := by
  refine (AF.all (n := Fc d wa u c (t + 2)) (ru := fun _ => 0) (rl := fun _ => 0) (by omega) (fun q hq => ?_)).1
  obtain ⟨g, x, j, h, hg, hx, hdx, hGj, rfl⟩ := drD_mem.mp hq
  have hj := hdc (mem g) x j (hm g hg).1 hx hdx
  obtain ⟨h', hh, hGj', _⟩ := mt_live hu hdc hm hj (Gs_some hGj)
  rw [hGj] at hGj'
  have e := Option.some.inj hGj'
  exact ⟨g, x, x, h, 0, rfl, hg, by omega, by omega, by omega, by omega, fun h => by omega, fun h => by omega⟩
theorem ls_ok {d : Nat → Nat → Option Nat} {wa u : Nat → Bool} {c t g0 : Nat} {mem : Nat → Nat} {o : Option Ma} (hc : c ≤ 200) (h1 : 1 ≤ c) (hu : UOf d wa c u) (hdc : ∀ k x y, k < c → x < 8 → d k x = some y → y < c) (hF : Fc d wa u c (t + 2) ≤ 32) (hm : MemOf d wa u c t mem) (hu0 : u 0 = true) (hg0 : Gs d wa u (t + 2) 0 = some g0)
    (hM : Made 1024 (Ss (dpr d u) wa (t + 2) 0) (lsE d wa u c t) (lsD d wa u c t) o) : g0 < Fc d wa u c (t + 2) ∧ Made (Fc d wa u c (t + 2)) g0 (drE wa mem (Fc d wa u c (t + 2))) (drD d (Gs d wa u (t + 2)) mem (Fc d wa u c (t + 2))) o := by
  obtain ⟨g, hg, hG, hS⟩ := mt_live hu hdc hm (by omega : 0 < c) hu0
  rw [hg0] at hG
  have e := Option.some.inj hG
  subst e
  refine ⟨hg, ?_⟩
  obtain ⟨o2, ho2⟩ := made_ex (Fc d wa u c (t + 2)) g0 (drE wa mem (Fc d wa u c (t + 2))) (drD d (Gs d wa u (t + 2)) mem (Fc d wa u c (t + 2)))
  have hR := rel_all (wa := wa) hu hdc (t + 2)
  have h2 := made_ren (mt_ren hc hu hdc hm) (by omega) (dr_af hF hu hdc hm) hg (mt_arcs (by omega) hu hdc hm) (E' := lsE d wa u c t) (fun s hs => by
    show mnE (Ss (dpr d u) wa (t + 2)) wa c (Ss (dpr d u) wa (t + 2) (mem s)) = (decide (s < Fc d wa u c (t + 2)) && wa (mem s))
    rw [decide_eq_true hs, Bool.true_and]
    exact mnE_at (fun i j hi hj he => hR.2.1 i j hi hj he) (hm s hs).1) ho2
  have hb : Ss (dpr d u) wa (t + 2) 0 < c := ss_bd (by omega)
  have h2 : Made 1024 (Ss (dpr d u) wa (t + 2) (mem g0)) (lsE d wa u c t) (lsD d wa u c t) o2 := h2
  rw [hS] at h2
  have haf := (ls_af (wa := wa) (u := u) (t := t) hc hdc).1
  have := Made.uq h2 hM (fun _ => Iff.rfl) (by omega) (by omega) haf haf (fun _ _ _ => rfl)
  rw [← this]; exact ho2
theorem mnE_no {S : Nat → Nat} {wa : Nat → Bool} : ∀ {n : Nat}, (∀ i, i < n → wa i = false) → mnE S wa n = fun _ => false
  | 0, _ => rfl
  | n + 1, h => by
    funext x
    show (if x = S n then wa n else mnE S wa n x) = false
    rw [h n (by omega), mnE_no (n := n) (fun i hi => h i (by omega))]
    split <;> rfl
theorem ls_dead {d : Nat → Nat → Option Nat} {wa u : Nat → Bool} {c t : Nat} {o : Option Ma} (hc : c ≤ 200) (h1 : 1 ≤ c) (hu : UOf d wa c u) (hdc : ∀ k x y, k < c → x < 8 → d k x = some y → y < c) (hall : ∀ i, i < c → Rc (dR d c) 0 i) (hu0 : u 0 = false)
    (hM : Made 1024 (Ss (dpr d u) wa (t + 2) 0) (lsE d wa u c t) (lsD d wa u c t) o) : Made 1 0 (fun _ => false) [] o := by
  have hun : ∀ i, i < c → u i = false := by
    intro i hi
    cases ui : u i with
    | false => rfl
    | true =>
      have : u 0 = true := (hall i hi).rev.cl (S := fun x => u x = true) ui (fun x y hx hr => uof_st hu hr hx)
      rw [hu0] at this; cases this
  have hD : lsD d wa u c t = [] := by
    rw [List.eq_nil_iff_forall_not_mem]
    intro q hq
    obtain ⟨k, x, j, hk, hn, hx, hdx, rfl⟩ := mnD_mem.mp hq
    rw [dead_next hu hk (hun k hk) hx] at hdx
    cases hdx
  have hE : lsE d wa u c t = fun _ => false := mnE_no (fun i hi => dead_wa hu hi (hun i hi))
  rw [hD, hE] at hM
  obtain ⟨o2, ho2⟩ := made_ex 1 0 (fun _ => false) []
  have hb : Ss (dpr d u) wa (t + 2) 0 < c := ss_bd (by omega)
  have hok : ∀ n, DOK n [] := fun n q hq => by cases hq
  have h2 := made_ren (φ := fun _ => Ss (dpr d u) wa (t + 2) 0) (n := 1) (n' := 1024) (D := []) (D' := []) (E' := fun _ => false) ⟨fun a b h1 h2 => by omega, fun a ha => by show Ss (dpr d u) wa (t + 2) 0 < 1024; omega⟩ (by omega) (hok 1) (by omega) (fun q => ⟨fun h => (by cases h), fun ⟨a, h, _⟩ => (by cases h)⟩) (fun s hs => rfl) ho2
  have := Made.uq h2 hM (fun _ => Iff.rfl) (by show Ss (dpr d u) wa (t + 2) 0 < 1024; omega) (by omega) (hok _) (hok _) (fun _ _ _ => rfl)
  rw [← this]; exact ho2
theorem ls_step {d : Nat → Nat → Option Nat} {wa u : Nat → Bool} {c t i x j : Nat} (hc : c ≤ 200) (hu : UOf d wa c u) (hdc : ∀ k x y, k < c → x < 8 → d k x = some y → y < c) (hst : Mc (dpr d u) wa c (t + 2) = Mc (dpr d u) wa c (t + 1)) (hi : i < c) (hx : x < 8) (hd : d i x = some j) (uj : u j = true) : aR (lsD d wa u c t) (Ss (dpr d u) wa (t + 2) i) (Ss (dpr d u) wa (t + 2) j) := by
  have hdp : ∀ k x y, k < c → x < 8 → dpr d u k x = some y → y < c := fun k x y hk hx h => hdc k x y hk hx (dpr_some.mp h).1
  obtain ⟨a1, a2, a3, a4⟩ := rp_spec (sig := sgM (dpr d u) (Ss (dpr d u) wa (t + 1))) (U := fun _ => true) (i := i) rfl
  have hn := nw_rp (sig := sgM (dpr d u) (Ss (dpr d u) wa (t + 1))) (U := fun _ => true) (i := i) rfl
  obtain ⟨ρ, hρ⟩ : ∃ ρ, ρ = rpF (sgM (dpr d u) (Ss (dpr d u) wa (t + 1))) (fun _ => true) i := ⟨_, rfl⟩
  rw [← hρ] at a1 a3 hn
  have hS : Ss (dpr d u) wa (t + 2) ρ = Ss (dpr d u) wa (t + 2) i := (nm_eq rfl rfl).mpr a3
  have hsb := mc_stable hdp hst (by omega : ρ < c) hi hS x hx
  have hdi : dpr d u i x = some j := dpr_some.mpr ⟨hd, uj⟩
  unfold sb at hsb
  rw [hdi] at hsb
  cases hdr : dpr d u ρ x with
  | none => rw [hdr] at hsb; cases hsb
  | some j' =>
    rw [hdr] at hsb
    have e := Option.some.inj hsb
    have hj := hdc i x j hi hx hd
    have b1 : Ss (dpr d u) wa (t + 2) i < c := ss_bd hi
    have b2 : Ss (dpr d u) wa (t + 2) j < c := ss_bd hj
    refine ⟨(pkA (Ss (dpr d u) wa (t + 2) i) x x (Ss (dpr d u) wa (t + 2) j), 0), mnD_mem.mpr ⟨ρ, x, j', by omega, by rw [mt_nwS]; exact hn, hx, hdr, by rw [hS, e]⟩, pkA_from (by omega) (by omega) (by omega), pkA_to (by omega)⟩
theorem ls_big {d : Nat → Nat → Option Nat} {wa u : Nat → Bool} {c t : Nat} {o : Option Ma} (hc : c ≤ 200) (h1 : 1 ≤ c) (hu : UOf d wa c u) (hdc : ∀ k x y, k < c → x < 8 → d k x = some y → y < c) (hall : ∀ i, i < c → Rc (dR d c) 0 i) (hst : Mc (dpr d u) wa c (t + 2) = Mc (dpr d u) wa c (t + 1)) (hF : 33 ≤ Fc d wa u c (t + 2))
    (hM : Made 1024 (Ss (dpr d u) wa (t + 2) 0) (lsE d wa u c t) (lsD d wa u c t) o) : o = none := by
  obtain ⟨W, h2, h3⟩ := hM
  have hch : ∀ g, ∃ i, g < Fc d wa u c (t + 2) → i < c ∧ nwF (sgC d (Gs d wa u (t + 1))) u i = true ∧ cnt (nwF (sgC d (Gs d wa u (t + 1))) u) i = g := by
    intro g
    by_cases hg : g < Fc d wa u c (t + 2)
    · have hg : g < cnt (nwF (sgC d (Gs d wa u (t + 1))) u) c := hg
      obtain ⟨i, a, b, e⟩ := cnt_hit hg
      exact ⟨i, fun _ => ⟨a, b, e⟩⟩
    · exact ⟨0, fun h => absurd h hg⟩
  obtain ⟨mem, hm⟩ := Classical.axiomOfChoice hch
  have hren := mt_ren hc hu hdc hm
  have hR := rel_all (wa := wa) hu hdc (t + 2)
  have hreach : ∀ i, i < c → u i = true → Rc (aR (lsD d wa u c t)) (Ss (dpr d u) wa (t + 2) 0) (Ss (dpr d u) wa (t + 2) i) := by
    intro i hi ui
    refine (hall i hi).cl (S := fun x => u x = true → Rc (aR (lsD d wa u c t)) (Ss (dpr d u) wa (t + 2) 0) (Ss (dpr d u) wa (t + 2) x)) (fun _ => Rc.rf) ?_ ui
    rintro x y hx ⟨hxc, z, hz, hdz⟩ uy
    exact (hx (uof_st hu ⟨hxc, z, hz, hdz⟩ uy)).st (ls_step hc hu hdc hst hxc hz hdz uy)
  have hend : ∀ i, i < c → u i = true → ∃ e, e < 1024 ∧ lsE d wa u c t e = true ∧ Rc (aR (lsD d wa u c t)) (Ss (dpr d u) wa (t + 2) i) e := by
    intro i hi ui
    obtain ⟨_, j, hj, hw, hr⟩ := (hu i).mp ui
    have bj : Ss (dpr d u) wa (t + 2) j < c := ss_bd hj
    refine ⟨Ss (dpr d u) wa (t + 2) j, by omega, by rw [← hw]; exact mnE_at (fun i j hi hj he => hR.2.1 i j hi hj he) hj, ?_⟩
    have := hr.rev.cl (S := fun x => u x = true ∧ Rc (aR (lsD d wa u c t)) (Ss (dpr d u) wa (t + 2) x) (Ss (dpr d u) wa (t + 2) j)) ⟨uof_wa hu hj hw, Rc.rf⟩ (fun x y hx hr => by
      obtain ⟨hyc, z, hz, hdz⟩ := hr
      exact ⟨uof_st hu ⟨hyc, z, hz, hdz⟩ hx.1, Rc.hd (ls_step hc hu hdc hst hyc hz hdz hx.1) hx.2⟩)
    exact this.2
  have hW : ∀ g, g < Fc d wa u c (t + 2) → Ss (dpr d u) wa (t + 2) (mem g) ∈ W := by
    intro g hg
    obtain ⟨m1, m2, m3⟩ := hm g hg
    have um := (nw_iff.mp m2).1
    exact (h2.2 _).mpr ⟨hren.2 g hg, hreach _ m1 um, hend _ m1 um⟩
  have hlen : 33 ≤ W.length := by
    have hnd : ((List.range 33).map (fun g => Ss (dpr d u) wa (t + 2) (mem g))).Nodup := by
      rw [List.nodup_iff_pairwise_ne, List.pairwise_map]
      refine List.Pairwise.imp_of_mem ?_ (List.pairwise_lt_range (n := 33))
      intro a b ha hb hab e
      have hb := List.mem_range.mp hb
      have := hren.1 a b hab (by omega)
      have e : (fun g => Ss (dpr d u) wa (t + 2) (mem g)) a = (fun g => Ss (dpr d u) wa (t + 2) (mem g)) b := e
      omega
    have := nodup_le _ W hnd (fun x hx => by
      obtain ⟨g, hg, rfl⟩ := List.mem_map.mp hx
      exact hW g (by have := List.mem_range.mp hg; omega))
    rw [List.length_map, List.length_range] at this
    exact this
  rcases h3 with ⟨_, b⟩ | ⟨a, _⟩
  · exact b
  · exact absurd (Or.inl (by omega)) a
