
/-! a machine in its least form stays as it is -/
def DetB (n : Nat) (L : ArL) : Prop := BfsM n L ∧ (∀ q, q ∈ L → ∃ s x t, q = (pkA s x x t, 0) ∧ s < n ∧ x < 8 ∧ t < n) ∧ ∀ q q', q ∈ L → q' ∈ L → fr q.1 = fr q'.1 → upr q.1 = upr q'.1 → q = q'
theorem NF.db {M : Ma} (h : NF M) : DetB M.1 M.2.2 := ⟨h.2.1, h.2.2.2.1, h.2.2.2.2.1⟩
section DETB
variable {n : Nat} {L : ArL}
theorem DetB.fld (h : DetB n L) (hn : n ≤ 32) {q : Nat × Nat} (hq : q ∈ L) : fr q.1 < n ∧ upr q.1 < 8 ∧ lwr q.1 = upr q.1 ∧ too q.1 < n ∧ q = (pkA (fr q.1) (upr q.1) (upr q.1) (too q.1), 0) := by
  obtain ⟨s, x, t, rfl, h1, h2, h3⟩ := h.2.1 q hq
  obtain ⟨e1, e2, e3, e4⟩ := dr_fld (s := s) (c := 0) (show x < 16 by omega) (show x < 16 by omega) (show t < 1024 by omega)
  rw [e1, e2, e3, e4]
  exact ⟨h1, h2, rfl, h3, rfl⟩
theorem DetB.nx (h : DetB n L) (hn : n ≤ 32) {q : Nat × Nat} {len : Nat} (hq : q ∈ L) (h1 : 1 ≤ len) (hcl : ∀ q', q' ∈ L → fr q'.1 < fr q.1 ∨ (fr q'.1 = fr q.1 ∧ upr q'.1 < upr q.1) → too q'.1 < len) : too q.1 ≤ len := by
  refine Classical.byContradiction fun c => ?_
  obtain ⟨q', a1, a2, a3⟩ := h.1.2 q hq (by omega)
  obtain ⟨-, -, b3, -⟩ := h.fld hn hq
  obtain ⟨-, -, c3, -⟩ := h.fld hn a1
  rcases a3 with a3 | ⟨a3, a4⟩
  · have := hcl q' a1 (Or.inl a3)
    omega
  · rw [b3, c3] at a4
    rcases Nat.lt_or_ge (upr q'.1) (upr q.1) with e | e
    · have := hcl q' a1 (Or.inr ⟨a3, e⟩)
      omega
    · have e2 : q' = q := h.2.2 q' q a1 hq a3 (by omega)
      rw [e2] at a2
      omega
theorem DetB.all (h : DetB n L) {len : Nat} (h1 : 1 ≤ len) (hcl : ∀ q, q ∈ L → fr q.1 < len → too q.1 < len) : n ≤ len := by
  refine Classical.byContradiction fun c => ?_
  obtain ⟨q, a1, a2, a3⟩ := h.1.1 len h1 (by omega)
  have := hcl q a1 a2
  omega
theorem DetB.rc (h : DetB n L) : ∀ i, i < n → Rc (aR L) 0 i := by
  have key : ∀ b i, i < b → i < n → Rc (aR L) 0 i := by
    intro b
    induction b with
    | zero => intro i hi; exact absurd hi (Nat.not_lt_zero _)
    | succ b ih =>
      intro i hib hi
      rcases Nat.eq_zero_or_pos i with e | e
      · rw [e]; exact Rc.rf
      · obtain ⟨q, a1, a2, a3⟩ := h.1.1 i e hi
        exact (ih (fr q.1) (by omega) (by omega)).st ⟨q, a1, rfl, a3⟩
  exact fun i hi => key (i + 1) i (by omega) hi
end DETB
section EXID
variable {n : Nat} {L : ArL} {B : Nat → PS} {fA fB : Int32 → Nat → Int32} {kp : Int32 → Int32 → Bool}
def StB (n : Nat) (L : ArL) (B : Nat → PS) (fA fB : Int32 → Nat → Int32) (kp : Int32 → Int32 → Bool) : Prop := ∀ k x, k < n → x < 8 →
  (∃ q, q ∈ L ∧ fr q.1 = k ∧ upr q.1 = x ∧ (fA (B k).1 x, fB (B k).2 x) = B (too q.1) ∧ kp (fA (B k).1 x) (fB (B k).2 x) = true) ∨ ((∀ q, q ∈ L → fr q.1 = k → upr q.1 = x → False) ∧ kp (fA (B k).1 x) (fB (B k).2 x) = false)
theorem rm_get {len k : Nat} (hk : k < len) : ((List.range len).map B)[k]? = some (B k) := by
  rw [List.getElem?_map, List.getElem?_range hk]
  rfl
theorem exL_id {s : XS} {len k x : Nat} (hb : DetB n L) (hn : n ≤ 32) (hinj : ∀ i j, i < n → j < n → B i = B j → i = j) (hst : StB n L B fA fB kp) (hs : s.1 = (List.range len).map B) (h1 : 1 ≤ len) (h2 : len ≤ n) (hk : k < len) (hx : x < 8) (hcl : ∀ q, q ∈ L → fr q.1 < k ∨ (fr q.1 = k ∧ upr q.1 < x) → too q.1 < len) :
    ∃ s' len', exL fA fB kp s k x = some s' ∧ s'.1 = (List.range len').map B ∧ len ≤ len' ∧ len' ≤ n ∧ ∀ q, q ∈ L → fr q.1 < k ∨ (fr q.1 = k ∧ upr q.1 < x + 1) → too q.1 < len' := by
  have hg : s.1.getD k (nI 0, nI 0) = B k := by
    rw [List.getD_eq_getElem?_getD, hs, rm_get hk]; rfl
  have hl : s.1.length = len := by rw [hs, List.length_map, List.length_range]
  have hne : ∀ j, j ≤ len → j < n → ∀ j' p, j' < j → s.1[j']? = some p → p ≠ B j := by
    intro j hj hjn j' p hj' hp e
    rw [hs, rm_get (by omega)] at hp
    have hp := Option.some.inj hp
    have := hinj j' j (by omega) hjn (hp.trans e)
    omega
  unfold exL
  rw [hg, hl]
  rcases hst k x (by omega) hx with ⟨q, a1, a2, a3, a4, a5⟩ | ⟨a1, a2⟩
  · rw [if_pos a5, a4]
    have hj := hb.nx hn a1 h1 (fun q' hq' h => hcl q' hq' (by rw [a2, a3] at h; exact h))
    have hjn := (hb.fld hn a1).2.2.2.1
    rcases Nat.lt_or_ge (too q.1) len with e | e
    · have hix : ixp s.1 (B (too q.1)) = too q.1 := ixp_of (by omega) (hne _ (by omega) hjn) (fun _ => by rw [hs, rm_get e])
      rw [hix, if_pos e]
      refine ⟨_, len, rfl, hs, Nat.le_refl _, h2, fun q' hq' h => ?_⟩
      rcases h with h | ⟨h, h'⟩
      · exact hcl q' hq' (Or.inl h)
      · rcases Nat.lt_or_ge (upr q'.1) x with g | g
        · exact hcl q' hq' (Or.inr ⟨h, g⟩)
        · rw [hb.2.2 q' q hq' a1 (by omega) (by omega)]
          exact e
    · have ej : too q.1 = len := by omega
      have hix : ixp s.1 (B (too q.1)) = len := ixp_of (by omega) (fun j p h => by rw [ej]; exact hne len (Nat.le_refl _) (by omega) j p h) (fun h => by omega)
      rw [hix, if_neg (by omega), if_pos (by omega)]
      refine ⟨_, len + 1, rfl, ?_, by omega, by omega, fun q' hq' h => ?_⟩
      · show s.1 ++ [B (too q.1)] = _
        rw [List.range_succ, List.map_append, hs, ej]
        rfl
      rcases h with h | ⟨h, h'⟩
      · have := hcl q' hq' (Or.inl h); omega
      · rcases Nat.lt_or_ge (upr q'.1) x with g | g
        · have := hcl q' hq' (Or.inr ⟨h, g⟩); omega
        · rw [hb.2.2 q' q hq' a1 (by omega) (by omega)]
          omega
  · rw [if_neg (by rw [a2]; simp)]
    refine ⟨_, len, rfl, hs, Nat.le_refl _, h2, fun q' hq' h => ?_⟩
    rcases h with h | ⟨h, h'⟩
    · exact hcl q' hq' (Or.inl h)
    · rcases Nat.lt_or_ge (upr q'.1) x with g | g
      · exact hcl q' hq' (Or.inr ⟨h, g⟩)
      · exact (a1 q' hq' h (by omega)).elim
theorem exX_id {s : XS} {len k : Nat} (hb : DetB n L) (hn : n ≤ 32) (hinj : ∀ i j, i < n → j < n → B i = B j → i = j) (hst : StB n L B fA fB kp) (hs : s.1 = (List.range len).map B) (h1 : 1 ≤ len) (h2 : len ≤ n) (hk : k < len) (hcl : ∀ q, q ∈ L → fr q.1 < k → too q.1 < len) : ∀ x, x ≤ 8 →
    ∃ s' len', exX fA fB kp s k x = some s' ∧ s'.1 = (List.range len').map B ∧ len ≤ len' ∧ len' ≤ n ∧ ∀ q, q ∈ L → fr q.1 < k ∨ (fr q.1 = k ∧ upr q.1 < x) → too q.1 < len'
  | 0, _ => ⟨s, len, rfl, hs, Nat.le_refl _, h2, fun q hq h => hcl q hq (by omega)⟩
  | x + 1, hx => by
    obtain ⟨s1, l1, a1, a2, a3, a4, a5⟩ := exX_id hb hn hinj hst hs h1 h2 hk hcl x (by omega)
    obtain ⟨s2, l2, b1, b2, b3, b4, b5⟩ := exL_id hb hn hinj hst a2 (by omega) a4 (show k < l1 by omega) (show x < 8 by omega) a5
    refine ⟨s2, l2, ?_, b2, by omega, b4, b5⟩
    show (exX fA fB kp s k x).bind (fun s => exL fA fB kp s k x) = some s2
    rw [a1]
    exact b1
theorem exR_id (hb : DetB n L) (h1n : 1 ≤ n) (hn : n ≤ 32) (hinj : ∀ i j, i < n → j < n → B i = B j → i = j) (hst : StB n L B fA fB kp) : ∀ K, ∃ s len, exR fA fB kp (B 0).1 (B 0).2 K = some s ∧ s.1 = (List.range len).map B ∧ 1 ≤ len ∧ len ≤ n ∧ ∀ q, q ∈ L → fr q.1 < K → fr q.1 < len → too q.1 < len
  | 0 => ⟨_, 1, rfl, rfl, Nat.le_refl _, h1n, fun q _ h => absurd h (Nat.not_lt_zero _)⟩
  | K + 1 => by
    obtain ⟨s1, l1, a1, a2, a3, a4, a5⟩ := exR_id hb h1n hn hinj hst K
    have hl : s1.1.length = l1 := by rw [a2, List.length_map, List.length_range]
    by_cases c : K < l1
    · obtain ⟨s2, l2, b1, b2, b3, b4, b5⟩ := exX_id hb hn hinj hst a2 a3 a4 c (fun q hq h => a5 q hq h (by omega)) 8 (Nat.le_refl _)
      refine ⟨s2, l2, ?_, b2, by omega, b4, fun q hq h h' => ?_⟩
      · show (exR fA fB kp (B 0).1 (B 0).2 K).bind (fun s => if K < s.1.length then exX fA fB kp s K 8 else some s) = some s2
        rw [a1]
        show (if K < s1.1.length then exX fA fB kp s1 K 8 else some s1) = some s2
        rw [if_pos (by omega), b1]
      · have := (hb.fld hn hq).2.1
        exact b5 q hq (by omega)
    · refine ⟨s1, l1, ?_, a2, a3, a4, fun q hq h h' => a5 q hq (by omega) h'⟩
      show (exR fA fB kp (B 0).1 (B 0).2 K).bind (fun s => if K < s.1.length then exX fA fB kp s K 8 else some s) = some s1
      rw [a1]
      show (if K < s1.1.length then exX fA fB kp s1 K 8 else some s1) = some s1
      rw [if_neg (by omega)]
theorem exR_idn (hb : DetB n L) (h1n : 1 ≤ n) (hn : n ≤ 32) (hinj : ∀ i j, i < n → j < n → B i = B j → i = j) (hst : StB n L B fA fB kp) : ∃ s, exR fA fB kp (B 0).1 (B 0).2 200 = some s ∧ s.1 = (List.range n).map B := by
  obtain ⟨s, l, a1, a2, a3, a4, a5⟩ := exR_id hb h1n hn hinj hst 200
  have := hb.all a3 (fun q hq h => a5 q hq (by omega) h)
  have e : l = n := by omega
  subst e
  exact ⟨s, a1, a2⟩
end EXID
/-- the set of one state -/
def bt (k : Nat) : Int32 := q_shl (nI 1) (nI k)
theorem bt_tb {k i : Nat} (hk : k < 32) (hi : i < 32) : tb (bt k) i = decide (i = k) := tb_shl k hk i hi
theorem bt_inj {i j : Nat} (hi : i < 32) (hj : j < 32) (h : bt i = bt j) : i = j := by
  have h1 := bt_tb hi hi
  rw [h, bt_tb hj hi, decide_eq_true (rfl : i = i)] at h1
  exact of_decide_eq_true h1
theorem bt_ne {i : Nat} (hi : i < 32) : bt i ≠ nI 0 := by
  intro h
  have h1 := bt_tb hi hi
  rw [h, tb_0, decide_eq_true (rfl : i = i)] at h1
  cases h1
section BIT
variable {n : Nat} {f : Nat → Bool} {L : ArL}
theorem eps_none (hb : DetB n L) (hn : n ≤ 32) {s t : Nat} (h : Rc (eps L) s t) : s = t := by
  obtain ⟨P, h1, h2⟩ := eps_pth h
  cases P with
  | nil => exact h1
  | cons q P =>
    rw [wdg_c, if_neg (by have := (hb.fld hn h1.1).2.1; omega)] at h2
    cases h2
theorem mfi_bt (hb : DetB n L) (hok : DOK n L) (h1 : 1 ≤ n) (hn : n ≤ 32) : mfi L = bt 0 := by
  refine tb_uq (fun s hs => ?_)
  rw [mfi_spec hok hn h1 s hs, bt_tb (by omega) hs, decide_eq_true_iff]
  exact ⟨fun h => (eps_none hb hn h).symm, fun h => by rw [h]; exact Rc.rf⟩
theorem mst_bt (hb : DetB n L) (hok : DOK n L) (hn : n ≤ 32) {q : Nat × Nat} (hq : q ∈ L) : mst L (upr q.1) (bt (fr q.1)) = bt (too q.1) := by
  obtain ⟨a1, a2, a3, a4, a5⟩ := hb.fld hn hq
  refine tb_uq (fun s hs => ?_)
  rw [mst_spec hok hn s hs, bt_tb (by omega) hs, decide_eq_true_iff]
  constructor
  · rintro ⟨q', b1, b2, b3, b4⟩
    have c1 := (hb.fld hn b1).1
    rw [bt_tb (by omega) (by omega), decide_eq_true_iff] at b3
    have e : q' = q := hb.2.2 q' q b1 hq b3 b2
    rw [← eps_none hb hn b4, e]
  · intro e
    exact ⟨q, hq, rfl, by rw [bt_tb (by omega) (by omega)]; exact decide_eq_true rfl, by rw [e]; exact Rc.rf⟩
theorem mst_bn (hb : DetB n L) (hok : DOK n L) (hn : n ≤ 32) {k x : Nat} (hk : k < 32) (h : ∀ q, q ∈ L → fr q.1 = k → upr q.1 = x → False) : mst L x (bt k) = nI 0 := by
  refine tb_uq (fun s hs => ?_)
  rw [mst_spec hok hn s hs, tb_0]
  constructor
  · rintro ⟨q', b1, b2, b3, b4⟩
    have c1 := (hb.fld hn b1).1
    rw [bt_tb hk (by omega), decide_eq_true_iff] at b3
    exact (h q' b1 b3 b2).elim
  · intro h; cases h
/-- how the sets are found -/
theorem exF_id (hb : DetB n L) (hok : DOK n L) (h1 : 1 ≤ n) (hn : n ≤ 32) : (∃ s, exF 0 L L = some s ∧ s.1 = (List.range n).map (fun k => (bt k, nI 0))) ∧ exF 3 L L ≠ none := by
  have hno : ∀ k x, (¬ ∃ q, q ∈ L ∧ fr q.1 = k ∧ upr q.1 = x) → ∀ q, q ∈ L → fr q.1 = k → upr q.1 = x → False := fun k x c q h1 h2 h3 => c ⟨q, h1, h2, h3⟩
  have st0 : StB n L (fun k => (bt k, nI 0)) (fun v x => mst L x v) (fB2 0 L) (kpW (wnW 0)) := by
    intro k x hk hx
    by_cases c : ∃ q, q ∈ L ∧ fr q.1 = k ∧ upr q.1 = x
    · obtain ⟨q, a1, rfl, rfl⟩ := c
      have ht := (hb.fld hn a1).2.2.2.1
      refine Or.inl ⟨q, a1, rfl, rfl, ?_, ?_⟩
      · show (mst L (upr q.1) (bt (fr q.1)), nI 0) = (bt (too q.1), nI 0)
        rw [mst_bt hb hok hn a1]
      · show decide (mst L (upr q.1) (bt (fr q.1)) ≠ nI 0) = true
        rw [mst_bt hb hok hn a1]
        exact decide_eq_true (bt_ne (by omega))
    · have c := hno k x c
      refine Or.inr ⟨c, ?_⟩
      show decide (mst L x (bt k) ≠ nI 0) = false
      rw [mst_bn hb hok hn (by omega) c]
      exact decide_eq_false (fun h => h rfl)
  have st3 : StB n L (fun k => (bt k, bt k)) (fun v x => mst L x v) (fB2 3 L) (kpW (wnW 3)) := by
    intro k x hk hx
    by_cases c : ∃ q, q ∈ L ∧ fr q.1 = k ∧ upr q.1 = x
    · obtain ⟨q, a1, rfl, rfl⟩ := c
      have ht := (hb.fld hn a1).2.2.2.1
      refine Or.inl ⟨q, a1, rfl, rfl, ?_, ?_⟩
      · show (mst L (upr q.1) (bt (fr q.1)), mst L (upr q.1) (bt (fr q.1))) = (bt (too q.1), bt (too q.1))
        rw [mst_bt hb hok hn a1]
      · show (decide (mst L (upr q.1) (bt (fr q.1)) ≠ nI 0) || decide (mst L (upr q.1) (bt (fr q.1)) ≠ nI 0)) = true
        rw [mst_bt hb hok hn a1, decide_eq_true (bt_ne (show too q.1 < 32 by omega))]
        rfl
    · have c := hno k x c
      refine Or.inr ⟨c, ?_⟩
      show (decide (mst L x (bt k) ≠ nI 0) || decide (mst L x (bt k) ≠ nI 0)) = false
      rw [mst_bn hb hok hn (by omega) c, decide_eq_false (fun h => h rfl)]
      rfl
  constructor
  · obtain ⟨s, h2, h3⟩ := exR_idn hb h1 hn (fun i j hi hj e => bt_inj (show i < 32 by omega) (show j < 32 by omega) (Prod.ext_iff.mp e).1) st0
    refine ⟨s, ?_, h3⟩
    show exR _ _ _ (mfi L) (nI 0) 200 = some s
    rw [mfi_bt hb hok h1 hn]
    exact h2
  · obtain ⟨s, h2, h3⟩ := exR_idn hb h1 hn (fun i j hi hj e => bt_inj (show i < 32 by omega) (show j < 32 by omega) (Prod.ext_iff.mp e).1) st3
    have : exF 3 L L = some s := by
      show exR _ _ _ (mfi L) (mfi L) 200 = some s
      rw [mfi_bt hb hok h1 hn]
      exact h2
    rw [this]
    intro h; cases h
end BIT
