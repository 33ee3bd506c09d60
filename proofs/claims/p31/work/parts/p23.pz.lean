
/-! a rule's machine tells what is ruled -/
def og (g : Nat → Nat) : Nat → Nat → List Nat
  | 0, _ => []
  | d + 1, k => if g k = 8 then og g d (k + 1) else g k :: og g d (k + 1)
theorem rdA_og (g : Nat → Nat) (p : Nat) : ∀ d k, cnt (fun a => decide (g a ≠ 8)) k ≤ p → rdA g p d k = ((og g d k)[p - cnt (fun a => decide (g a ≠ 8)) k]?).getD 8
  | 0, k, _ => by
    show 8 = (([] : List Nat)[_]?).getD 8
    rw [List.getElem?_nil]
    rfl
  | d + 1, k, h => by
    have hs : cnt (fun a => decide (g a ≠ 8)) (k + 1) = cnt (fun a => decide (g a ≠ 8)) k + if decide (g k ≠ 8) = true then 1 else 0 := rfl
    show (if g k ≠ 8 ∧ cnt (fun a => decide (g a ≠ 8)) k = p then g k else rdA g p d (k + 1)) = ((if g k = 8 then og g d (k + 1) else g k :: og g d (k + 1))[p - cnt (fun a => decide (g a ≠ 8)) k]?).getD 8
    by_cases c : g k = 8
    · rw [decide_eq_false (fun h => h c), if_neg (by simp)] at hs
      have hs0 : cnt (fun a => decide (g a ≠ 8)) (k + 1) = cnt (fun a => decide (g a ≠ 8)) k := hs
      rw [if_neg (fun h => h.1 c), if_pos c, rdA_og g p d (k + 1) (by omega), hs0]
    · rw [decide_eq_true c, if_pos rfl] at hs
      rw [if_neg c]
      by_cases e : cnt (fun a => decide (g a ≠ 8)) k = p
      · rw [if_pos ⟨c, e⟩, e, Nat.sub_self]
        rfl
      · rw [if_neg (fun h => e h.2), rdA_og g p d (k + 1) (by omega), hs, show p - cnt (fun a => decide (g a ≠ 8)) k = (p - (cnt (fun a => decide (g a ≠ 8)) k + 1)) + 1 by omega, List.getElem?_cons_succ]
theorem ltP_gD (ρ : List Nat) (p : Nat) : ltP ρ p = (ρ.reverse[p]?).getD 8 := by
  cases h : ρ.reverse[p]? with
  | none =>
    have := List.getElem?_eq_none_iff.mp h
    rw [List.length_reverse] at this
    exact ltP_end ρ this
  | some x => exact ltP_rv h
section RULE
variable {f t : Nat} {l r : Option Nat} {w : List Nat}
theorem ru_mem {q : Nat × Nat} : q ∈ ruD f t l r false ↔ ∃ k x, k < 3 ∧ x < 8 ∧ kn r x k = true ∧ (q = (pkA k x x (thS (lpF l x)), 0) ∨ (x ≠ f ∧ q = (pkA (3 + k) x x (thS (lpF l x)), 0)) ∨ (x = f ∧ r = none ∧ q = (pkA (3 + k) f t (thS (lpF l f)), 0)) ∨ (x = f ∧ r ≠ none ∧ q = (pkA (3 + k) f t (thS (lpF l f) + 1), 0)) ∨ (x = f ∧ r ≠ none ∧ q = (pkA (3 + k) f f (thS (lpF l f) + 2), 0))) := by
  rw [fmN_mem]
  constructor
  · rintro ⟨k, hk, hq⟩
    obtain ⟨x, hx, hq⟩ := fmN_mem.mp hq
    unfold ckC at hq
    by_cases hkn : kn r x k = true
    · rw [if_pos hkn] at hq
      refine ⟨k, x, hk, hx, hkn, ?_⟩
      rcases List.mem_cons.mp hq with hq | hq
      · exact Or.inl hq
      · by_cases hxf : x = f
        · rw [if_pos hxf] at hq
          unfold rwC at hq
          rw [if_neg (show ¬ false = true by simp), List.append_nil] at hq
          by_cases hr : r = none
          · rw [if_pos hr, List.mem_singleton] at hq
            exact Or.inr (Or.inr (Or.inl ⟨hxf, hr, hq⟩))
          · rw [if_neg hr] at hq
            rcases List.mem_cons.mp hq with hq | hq
            · exact Or.inr (Or.inr (Or.inr (Or.inl ⟨hxf, hr, hq⟩)))
            · rw [List.mem_singleton] at hq
              exact Or.inr (Or.inr (Or.inr (Or.inr ⟨hxf, hr, hq⟩)))
        · rw [if_neg hxf, List.mem_singleton] at hq
          exact Or.inr (Or.inl ⟨hxf, hq⟩)
    · rw [if_neg hkn] at hq; cases hq
  · rintro ⟨k, x, hk, hx, hkn, h⟩
    refine ⟨k, hk, fmN_mem.mpr ⟨x, hx, ?_⟩⟩
    unfold ckC
    rw [if_pos hkn]
    rcases h with h | ⟨h1, h⟩ | ⟨h1, h2, h⟩ | ⟨h1, h2, h⟩ | ⟨h1, h2, h⟩
    · exact List.mem_cons.mpr (Or.inl h)
    · refine List.mem_cons.mpr (Or.inr ?_)
      rw [if_neg h1, h]
      exact List.mem_singleton.mpr rfl
    · refine List.mem_cons.mpr (Or.inr ?_)
      unfold rwC
      rw [if_pos h1, if_pos h2, h]
      exact List.mem_append_left _ (List.mem_singleton.mpr rfl)
    · refine List.mem_cons.mpr (Or.inr ?_)
      unfold rwC
      rw [if_pos h1, if_neg h2, h]
      exact List.mem_append_left _ (List.mem_cons.mpr (Or.inl rfl))
    · refine List.mem_cons.mpr (Or.inr ?_)
      unfold rwC
      rw [if_pos h1, if_neg h2, h]
      exact List.mem_append_left _ (List.mem_cons.mpr (Or.inr (List.mem_singleton.mpr rfl)))
theorem th_2 (b : Bool) : thS b = 0 ∧ b = false ∨ thS b = 3 ∧ b = true := by
  cases b
  · exact Or.inl ⟨rfl, rfl⟩
  · exact Or.inr ⟨rfl, rfl⟩
theorem rwA_s {k x : Nat} (h : w[k]? = some x) : rwA w l (k + 1) = lpF l x := by
  unfold rwA lpF
  rw [show k + 1 - 1 = k by omega, List.getD_eq_getElem?_getD, h, decide_eq_true (show 0 < k + 1 by omega), Bool.true_and]
  rfl
def oc (r : Option Nat) (w : List Nat) (o k : Nat) : Prop := (o = 1 → k < w.length ∧ r = some (w.getD k 0)) ∧ (o = 2 → ¬ (k < w.length ∧ r = some (w.getD k 0)))
theorem kn_oc {o k x : Nat} (ho : o < 3) (hx : w[k]? = some x) : kn r x o = true ↔ oc r w o k := by
  have hk := (List.getElem?_eq_some_iff.mp hx).1
  have hg : w.getD k 0 = x := by rw [List.getD_eq_getElem?_getD, hx]; rfl
  unfold kn oc
  rw [hg]
  have : o = 0 ∨ o = 1 ∨ o = 2 := by omega
  rcases this with rfl | rfl | rfl
  · rw [if_neg (by omega), if_pos rfl]
    exact ⟨fun _ => ⟨fun h => by omega, fun h => by omega⟩, fun _ => rfl⟩
  · rw [if_pos rfl, decide_eq_true_iff]
    exact ⟨fun h => ⟨fun _ => ⟨hk, h⟩, fun h => by omega⟩, fun h => (h.1 rfl).2⟩
  · rw [if_neg (by omega), if_neg (by omega), Bool.not_eq_true', decide_eq_false_iff_not]
    exact ⟨fun h => ⟨fun h => by omega, fun _ h' => h h'.2⟩, fun h h' => h.2 rfl ⟨hk, h'⟩⟩
theorem rg_no {k x : Nat} (hx : w[k]? = some x) (h : rwA w l k = false ∨ x ≠ f) : rdG w f t l r k = x := by
  have hg : w.getD k 0 = x := by rw [List.getD_eq_getElem?_getD, hx]; rfl
  unfold rdG rwB
  rw [hg]
  rcases h with h | h
  · rw [h, Bool.false_and, Bool.and_false, if_neg (by simp)]
  · rw [decide_eq_false h, Bool.false_and, if_neg (by simp)]
theorem rg_yes {k : Nat} (hx : w[k]? = some f) (h : rwA w l k = true) : rdG w f t l r k = if rwZ w r k = true then t else f := by
  have hg : w.getD k 0 = f := by rw [List.getD_eq_getElem?_getD, hx]; rfl
  unfold rdG rwB
  rw [hg, h, decide_eq_true rfl, Bool.true_and, Bool.true_and]
theorem rz_oc {k : Nat} (hr : r ≠ none) : rwZ w r k = true ↔ (k + 1 < w.length ∧ r = some (w.getD (k + 1) 0)) := by
  unfold rwZ
  rw [decide_eq_false hr, Bool.false_or, Bool.and_eq_true, decide_eq_true_iff, decide_eq_true_iff]
theorem wdrop {k x : Nat} {v : List Nat} (h : x :: v = w.drop k) : w[k]? = some x ∧ v = w.drop (k + 1) := by
  constructor
  · have := congrArg (fun l => l[0]?) h
    simp only [List.getElem?_drop, List.getElem?_cons_zero, Nat.add_zero] at this
    exact this.symm
  · have := congrArg List.tail h
    rw [List.tail_cons, List.tail_drop] at this
    exact this
theorem ru_snd (hf : f < 8) (ht : t < 9) {e : Nat} (he : rlE 3 e = true) : ∀ (P : ArL) (k o : Nat), o < 3 → k ≤ w.length → Pth (ruD f t l r false) (thS (rwA w l k) + o) P e → wdg upr P = w.drop k → oc r w o k ∧ wdg lwr P = og (rdG w f t l r) (w.length - k) k
  | [], k, o, ho, hk, h, hw => by
    have h : thS (rwA w l k) + o = e := h
    have hl : (w.drop k).length = 0 := by rw [← hw]; rfl
    rw [List.length_drop] at hl
    have hkl : k = w.length := by omega
    subst hkl
    rw [Nat.sub_self]
    refine ⟨⟨fun h1 => ?_, fun _ h' => absurd h'.1 (Nat.lt_irrefl _)⟩, rfl⟩
    unfold rlE at he
    have he := of_decide_eq_true he
    rcases th_2 (rwA w l w.length) with ⟨a, _⟩ | ⟨a, _⟩
    · rw [a] at h; omega
    · rw [a] at h; omega
  | q :: P, k, o, ho, hk, h, hw => by
    obtain ⟨h1, h2, h3⟩ := h
    obtain ⟨kq, x, a1, a2, a3, a4⟩ := ru_mem.mp h1
    -- what an arc gives
    have key : ∀ s lo o', q = (pkA s x lo (thS (lpF l x) + o'), 0) → s < 6 → lo < 9 → o' < 3 → s = kq ∨ s = 3 + kq → (rwA w l k = false → s = kq → w[k]? = some x → lo = x ∧ o' = 0) → (rwA w l k = true → s = 3 + kq → w[k]? = some x → oc r w o' (k + 1) → lo = rdG w f t l r k) → oc r w o k ∧ wdg lwr (q :: P) = og (rdG w f t l r) (w.length - k) k := by
      intro s lo o' hq hs hlo ho' hsk hA hB
      have hT := th_2 (lpF l x)
      have hpx : thS (lpF l x) + o' < 1024 := by rcases hT with ⟨a, _⟩ | ⟨a, _⟩ <;> omega
      obtain ⟨e1, e2, e3, e4⟩ := dr_fld (s := s) (u := x) (l := lo) (c := 0) (by omega) (by omega) hpx
      rw [← hq] at e1 e2 e3 e4
      rw [wdg_c, e2, if_neg (by omega)] at hw
      obtain ⟨hx, hw2⟩ := wdrop hw
      have hkl := (List.getElem?_eq_some_iff.mp hx).1
      have h3 : Pth (ruD f t l r false) (thS (rwA w l (k + 1)) + o') P e := by rw [rwA_s hx, ← e4]; exact h3
      obtain ⟨i1, i2⟩ := ru_snd hf ht he P (k + 1) o' ho' (by omega) h3 hw2
      have hg : rdG w f t l r k = lo ∧ kq = o := by
        rw [e1] at h2
        rcases th_2 (rwA w l k) with ⟨b1, b2⟩ | ⟨b1, b2⟩
        · rw [b1] at h2
          have hk' : s = kq := by rcases hsk with c | c <;> omega
          obtain ⟨c1, c2⟩ := hA b2 hk' hx
          rw [c1]
          exact ⟨rg_no hx (Or.inl b2), by omega⟩
        · rw [b1] at h2
          have hk' : s = 3 + kq := by rcases hsk with c | c <;> omega
          exact ⟨(hB b2 hk' hx i1).symm, by omega⟩
      obtain ⟨hg1, hg2⟩ := hg
      rw [hg2] at a3
      refine ⟨(kn_oc ho hx).mp a3, ?_⟩
      rw [wdg_c, e3, show w.length - k = (w.length - (k + 1)) + 1 by omega]
      show _ = if rdG w f t l r k = 8 then og (rdG w f t l r) (w.length - (k + 1)) (k + 1) else rdG w f t l r k :: og (rdG w f t l r) (w.length - (k + 1)) (k + 1)
      rw [hg1, i2]
    rcases a4 with a4 | ⟨b1, a4⟩ | ⟨b1, b2, a4⟩ | ⟨b1, b2, a4⟩ | ⟨b1, b2, a4⟩
    · refine key kq x 0 a4 (by omega) (by omega) (by omega) (Or.inl rfl) (fun _ _ _ => ⟨rfl, rfl⟩) (fun hA hs _ _ => ?_)
      omega
    · refine key (3 + kq) x 0 a4 (by omega) (by omega) (by omega) (Or.inr rfl) (fun _ hs _ => by omega) (fun hA _ hx _ => (rg_no hx (Or.inr b1)).symm)
    · subst b1
      refine key (3 + kq) t 0 a4 (by omega) (by omega) (by omega) (Or.inr rfl) (fun _ hs _ => by omega) (fun hA _ hx _ => ?_)
      rw [rg_yes hx hA, if_pos (by unfold rwZ; rw [decide_eq_true b2]; rfl)]
    · subst b1
      refine key (3 + kq) t 1 a4 (by omega) (by omega) (by omega) (Or.inr rfl) (fun _ hs _ => by omega) (fun hA _ hx ho2 => ?_)
      rw [rg_yes hx hA, if_pos ((rz_oc b2).mpr (ho2.1 rfl))]
    · subst b1
      refine key (3 + kq) x 2 a4 (by omega) (by omega) (by omega) (Or.inr rfl) (fun _ hs _ => by omega) (fun hA _ hx ho2 => ?_)
      rw [rg_yes hx hA, if_neg (fun h => ho2.2 rfl ((rz_oc b2).mp h))]
theorem ru_ex (hf : f < 8) (ht : t < 9) (hw8 : ∀ x, x ∈ w → x < 8) : ∀ (d k o : Nat), k + d = w.length → o < 3 → oc r w o k → ∃ P e, Pth (ruD f t l r false) (thS (rwA w l k) + o) P e ∧ e < 6 ∧ rlE 3 e = true ∧ wdg upr P = w.drop k
  | 0, k, o, hk, ho, hoc => by
    have hkl : k = w.length := by omega
    subst hkl
    have ho1 : o ≠ 1 := fun h => absurd (hoc.1 h).1 (Nat.lt_irrefl _)
    refine ⟨[], _, rfl, ?_, ?_, by rw [List.drop_length]; rfl⟩
    · rcases th_2 (rwA w l w.length) with ⟨a, _⟩ | ⟨a, _⟩ <;> omega
    · unfold rlE
      refine decide_eq_true ?_
      rcases th_2 (rwA w l w.length) with ⟨a, _⟩ | ⟨a, _⟩ <;> omega
  | d + 1, k, o, hk, ho, hoc => by
    obtain ⟨x, hx⟩ : ∃ x, w[k]? = some x := ⟨_, List.getElem?_eq_getElem (by omega)⟩
    have hx8 := hw8 x (List.mem_of_getElem? hx)
    have hkn := (kn_oc ho hx).mpr hoc
    have hdrop : w.drop k = x :: w.drop (k + 1) := by
      rw [List.drop_eq_getElem_cons (show k < w.length by omega)]
      congr 1
      have := List.getElem?_eq_some_iff.mp hx
      exact this.2
    have go : ∀ s lo o', (pkA s x lo (thS (lpF l x) + o'), 0) ∈ ruD f t l r false → s = thS (rwA w l k) + o → lo < 9 → o' < 3 → oc r w o' (k + 1) → ∃ P e, Pth (ruD f t l r false) (thS (rwA w l k) + o) P e ∧ e < 6 ∧ rlE 3 e = true ∧ wdg upr P = w.drop k := by
      intro s lo o' hq hs hlo ho' hoc'
      have hT := th_2 (lpF l x)
      have hpx : thS (lpF l x) + o' < 1024 := by rcases hT with ⟨a, _⟩ | ⟨a, _⟩ <;> omega
      obtain ⟨e1, e2, e3, e4⟩ := dr_fld (s := s) (u := x) (l := lo) (c := 0) (by omega) (by omega) hpx
      obtain ⟨P, e, p1, p2, p3, p4⟩ := ru_ex hf ht hw8 d (k + 1) o' (by omega) ho' hoc'
      rw [rwA_s hx] at p1
      refine ⟨_ :: P, e, ⟨hq, by rw [e1, hs], by rw [e4]; exact p1⟩, p2, p3, ?_⟩
      rw [wdg_c, e2, if_neg (by omega), p4, hdrop]
    have oc0 : oc r w 0 (k + 1) := ⟨fun h => by omega, fun h => by omega⟩
    rcases th_2 (rwA w l k) with ⟨b1, b2⟩ | ⟨b1, b2⟩
    · exact go o x 0 (ru_mem.mpr ⟨o, x, ho, hx8, hkn, Or.inl rfl⟩) (by omega) (by omega) (by omega) oc0
    · by_cases hxf : x = f
      · subst hxf
        by_cases hr : r = none
        · exact go (3 + o) t 0 (ru_mem.mpr ⟨o, x, ho, hx8, hkn, Or.inr (Or.inr (Or.inl ⟨rfl, hr, rfl⟩))⟩) (by omega) (by omega) (by omega) oc0
        · by_cases hz : k + 1 < w.length ∧ r = some (w.getD (k + 1) 0)
          · exact go (3 + o) t 1 (ru_mem.mpr ⟨o, x, ho, hx8, hkn, Or.inr (Or.inr (Or.inr (Or.inl ⟨rfl, hr, rfl⟩)))⟩) (by omega) (by omega) (by omega) ⟨fun _ => hz, fun h => by omega⟩
          · exact go (3 + o) x 2 (ru_mem.mpr ⟨o, x, ho, hx8, hkn, Or.inr (Or.inr (Or.inr (Or.inr ⟨rfl, hr, rfl⟩)))⟩) (by omega) (by omega) (by omega) ⟨fun h => by omega, fun _ => hz⟩
      · exact go (3 + o) x 0 (ru_mem.mpr ⟨o, x, ho, hx8, hkn, Or.inr (Or.inl ⟨hxf, rfl⟩)⟩) (by omega) (by omega) (by omega) oc0
theorem og_lt {g : Nat → Nat} (hg : ∀ a, g a < 9) : ∀ d k x, x ∈ og g d k → x < 8
  | 0, k, x, h => by cases h
  | d + 1, k, x, h => by
    have h : x ∈ (if g k = 8 then og g d (k + 1) else g k :: og g d (k + 1)) := h
    by_cases c : g k = 8
    · rw [if_pos c] at h
      exact og_lt hg d (k + 1) x h
    · rw [if_neg c] at h
      rcases List.mem_cons.mp h with e | e
      · have := hg k; omega
      · exact og_lt hg d (k + 1) x e
theorem ru_ok (hf : f < 8) (ht : t < 9) : DOK 6 (ruD f t l r false) := by
  intro q hq
  obtain ⟨k, x, a1, a2, a3, a4⟩ := ru_mem.mp hq
  have h1 := th_2 (lpF l x)
  have h2 := th_2 (lpF l f)
  rcases a4 with rfl | ⟨b1, rfl⟩ | ⟨b1, b2, rfl⟩ | ⟨b1, b2, rfl⟩ | ⟨b1, b2, rfl⟩
  · exact AOK.mk (by omega) (by omega) (by omega) (by omega) (by rcases h1 with ⟨a, _⟩ | ⟨a, _⟩ <;> omega) (by omega)
  · exact AOK.mk (by omega) (by omega) (by omega) (by omega) (by rcases h1 with ⟨a, _⟩ | ⟨a, _⟩ <;> omega) (by omega)
  · exact AOK.mk (by omega) (by omega) (by omega) (by omega) (by rcases h2 with ⟨a, _⟩ | ⟨a, _⟩ <;> omega) (by omega)
  · exact AOK.mk (by omega) (by omega) (by omega) (by omega) (by rcases h2 with ⟨a, _⟩ | ⟨a, _⟩ <;> omega) (by omega)
  · exact AOK.mk (by omega) (by omega) (by omega) (by omega) (by rcases h2 with ⟨a, _⟩ | ⟨a, _⟩ <;> omega) (by omega)
theorem rwA_0 : thS (rwA w l 0) + 0 = thS (decide (l = none)) := by
  unfold rwA
  rw [decide_eq_false (Nat.lt_irrefl 0), Bool.false_and, Bool.or_false]
  rfl
theorem ra_1 {M : Ma} (hf : f < 8) (ht : t < 9) (h : RuM f t l r M) {ρ : List Nat} (ha : AnU false M.1 M.2.1 M.2.2 w ρ) : ρ.reverse = og (rdG w f t l r) w.length 0 := by
  obtain ⟨P, e, h1, h2, h3, h4, h5⟩ := ha
  have hst := thS_le (decide (l = none))
  obtain ⟨P', e', k1, k2, k3, k4⟩ := (acc_made h (ru_ok hf ht) (by omega) (P.map ltr)).mp ⟨P, e, h1, h2, h3, rfl⟩
  obtain ⟨g1, g2⟩ := wdg_ltr k4
  have h4 : wdg upr P = w := h4
  have h5 : wdg lwr P = ρ.reverse := h5
  rw [← rwA_0 (w := w)] at k1
  have := (ru_snd hf ht k3 P' 0 0 (by omega) (Nat.zero_le _) k1 (by rw [g1, h4]; rfl)).2
  rw [g2, h5] at this
  exact this
theorem ra_2 {M : Ma} (hf : f < 8) (ht : t < 9) (hw8 : ∀ x, x ∈ w → x < 8) (h : RuM f t l r M) : AnU false M.1 M.2.1 M.2.2 w (og (rdG w f t l r) w.length 0).reverse := by
  have hst := thS_le (decide (l = none))
  obtain ⟨P, e, p1, p2, p3, p4⟩ := ru_ex (l := l) (r := r) hf ht hw8 w.length 0 0 (by omega) (by omega) ⟨fun h => by omega, fun h => by omega⟩
  have p5 := (ru_snd hf ht p3 P 0 0 (by omega) (Nat.zero_le _) p1 p4).2
  rw [rwA_0] at p1
  obtain ⟨P', e', k1, k2, k3, k4⟩ := (acc_made h (ru_ok hf ht) (by omega) (P.map ltr)).mpr ⟨P, e, p1, p2, p3, rfl⟩
  obtain ⟨g1, g2⟩ := wdg_ltr k4
  refine ⟨P', e', k1, k2, k3, ?_, ?_⟩
  · show wdg upr P' = w
    rw [g1, p4]; rfl
  · show wdg lwr P' = _
    rw [g2, p5, List.reverse_reverse]
    rfl
/-- the first answer of a rule's machine -/
theorem ru_look {M : Ma} {A : List (List Nat)} (hf : f < 8) (ht : t < 9) (hw8 : ∀ x, x ∈ w → x < 8) (h : RuM f t l r M) (hL : Look false M.1 M.2.1 M.2.2 w A) : 0 < A.length ∧ ∀ p, ltP (A.getD 0 []) p = rdA (rdG w f t l r) p w.length 0 := by
  have hg : ∀ a, rdG w f t l r a < 9 := by
    intro a
    unfold rdG
    split
    · exact ht
    · have := wd_lt hw8 a
      omega
  have h2 := ra_2 (l := l) (r := r) hf ht hw8 h
  have hpos : 0 < A.length := by
    rcases Nat.lt_or_ge A.length 20 with c | c
    · exact List.length_pos_of_mem (hL.2.2.2 c _ (fun z hz => og_lt hg _ _ z (List.mem_reverse.mp hz)) h2)
    · omega
  refine ⟨hpos, fun p => ?_⟩
  have h1 := ra_1 hf ht h (hL.2.2.1 _ (gD_mem hpos).2).2.2
  rw [ltP_gD, h1, rdA_og _ p _ 0 (Nat.zero_le _)]
  rfl
end RULE
