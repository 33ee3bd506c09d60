def rdW (way : Nat) (q : Nat × Nat) : Nat := if way = 1 then lwr q.1 else upr q.1
def syW (way : Nat) (q : Nat × Nat) : Nat := if way = 0 then lwr q.1 else upr q.1
def cSt (way : Nat) (q : Nat × Nat) : Option Nat := if way = 2 then some (if rdW way q = 8 then 0 else 1) else if rdW way q = 8 then some q.2 else none
def cRd (way : Nat) (w : List Nat) (p : Nat) (q : Nat × Nat) : Option Nat := match w[p]? with
  | none => none
  | some x => if rdW way q = 8 then none else if way = 2 then some (if rdW way q = x then 0 else 1) else if rdW way q = x then some q.2 else none
def cSk (way : Nat) (w : List Nat) (p : Nat) : Option Nat := if way = 2 ∧ p < w.length then some 1 else none
def Eg (way : Nat) (L : ArL) (w : List Nat) (a c b y : Nat) : Prop := ∃ p, p ≤ w.length ∧ ((∃ q, q ∈ L ∧ cSt way q = some c ∧ a = 32 * p + fr q.1 ∧ b = 32 * p + too q.1 ∧ y = syW way q) ∨ (∃ q, q ∈ L ∧ cRd way w p q = some c ∧ a = 32 * p + fr q.1 ∧ b = 32 * (p + 1) + too q.1 ∧ y = syW way q) ∨ ∃ s, s < 32 ∧ cSk way w p = some c ∧ a = 32 * p + s ∧ b = 32 * (p + 1) + s ∧ y = 8)
def eG (way : Nat) (L : ArL) (w : List Nat) (a c b : Nat) : Prop := ∃ y, Eg way L w a c b y
def En (n : Nat) (f : Nat → Bool) (w : List Nat) (a : Nat) : Prop := ∃ s, s < n ∧ f s = true ∧ a = 32 * w.length + s
theorem cRd_lt {way p c : Nat} {w : List Nat} {q : Nat × Nat} (h : cRd way w p q = some c) : p < w.length := by
  unfold cRd at h
  cases hw : w[p]? with
  | none => rw [hw] at h; cases h
  | some x => exact (List.getElem?_eq_some_iff.mp hw).1
theorem cSk_lt {way p c : Nat} {w : List Nat} (h : cSk way w p = some c) : p < w.length ∧ c = 1 ∧ way = 2 := by
  unfold cSk at h
  split at h
  · rename_i hh
    exact ⟨hh.2, (Option.some.inj h).symm, hh.1⟩
  · cases h
theorem cSt_le {way c n : Nat} {q : Nat × Nat} (hq : AOK n q) (h : cSt way q = some c) : c ≤ 1000000 := by
  unfold cSt at h
  have := hq.2.2.2.2.2
  split at h
  · have := Option.some.inj h
    split at this <;> omega
  · split at h
    · have := Option.some.inj h; omega
    · cases h
theorem cRd_le {way p c n : Nat} {w : List Nat} {q : Nat × Nat} (hq : AOK n q) (h : cRd way w p q = some c) : c ≤ 1000000 := by
  unfold cRd at h
  have := hq.2.2.2.2.2
  cases hw : w[p]? with
  | none => rw [hw] at h; cases h
  | some x =>
    rw [hw] at h
    have h : (if rdW way q = 8 then none else if way = 2 then some (if rdW way q = x then 0 else 1) else if rdW way q = x then some q.2 else none) = some c := h
    split at h
    · cases h
    · split at h
      · have := Option.some.inj h
        split at this <;> omega
      · split at h
        · have := Option.some.inj h; omega
        · cases h
theorem eg_bd {way n : Nat} {L : ArL} {w : List Nat} (hw : w.length ≤ 8) (hn : n ≤ 32) (hok : DOK n L) : EB (eG way L w) := by
  rintro a c b ⟨y, p, hp, h⟩
  rcases h with ⟨q, hq, h1, rfl, rfl, _⟩ | ⟨q, hq, h1, rfl, rfl, _⟩ | ⟨s, hs, h1, rfl, rfl, _⟩
  · have h2 := hok q hq
    have := h2.2.1
    have := h2.2.2.1
    exact ⟨by omega, by omega, cSt_le h2 h1⟩
  · have h2 := hok q hq
    have := h2.2.1
    have := h2.2.2.1
    have := cRd_lt h1
    exact ⟨by omega, by omega, cRd_le h2 h1⟩
  · have := cSk_lt h1
    exact ⟨by omega, by omega, by omega⟩
def SC (m : Mem) (a way n : Nat) (e : Int32) (L : ArL) (w : List Nat) : Prop := MC m a n e L ∧ m 40 2 = nI a ∧ m 40 1 = nI w.length ∧ m 40 3 = nI way ∧ (∀ j x, w[j]? = some x → m 41 j = nI x) ∧ ∀ i q, L[i]? = some q → m 42 i = nI (fr q.1) ∧ m 43 i = nI (rdW way q) ∧ m 44 i = nI (syW way q) ∧ m 45 i = nI (too q.1)
theorem SC.cg {m m' : Mem} {a way n : Nat} {e : Int32} {L : ArL} {w : List Nat} (h : SC m a way n e L w) (ha : 200 ≤ a) (hf : ∀ k, (41 ≤ k ∧ k < 46) ∨ 200 ≤ k → m' k = m k) (h1 : m' 40 1 = m 40 1) (h2 : m' 40 2 = m 40 2) (h3 : m' 40 3 = m 40 3) : SC m' a way n e L w := by
  obtain ⟨s1, s2, s3, s4, s5, s6⟩ := h
  refine ⟨s1.cg (hf _ (by omega)) (hf _ (by omega)) (hf _ (by omega)) (hf _ (by omega)), by rw [h2]; exact s2, by rw [h1]; exact s3, by rw [h3]; exact s4, fun j x hx => by rw [hf 41 (by omega)]; exact s5 j x hx, fun i q hq => ?_⟩
  obtain ⟨x1, x2, x3, x4⟩ := s6 i q hq
  exact ⟨by rw [hf 42 (by omega)]; exact x1, by rw [hf 43 (by omega)]; exact x2, by rw [hf 44 (by omega)]; exact x3, by rw [hf 45 (by omega)]; exact x4⟩
def cI (o : Option Nat) : Int32 := match o with | none => nM | some c => nI c
theorem rdW_le {way n : Nat} {q : Nat × Nat} (h : AOK n q) : rdW way q ≤ 8 := by
  unfold rdW
  have := h.2.2.2.1
  have := h.2.2.2.2.1
  split <;> omega
theorem syW_le {way n : Nat} {q : Nat × Nat} (h : AOK n q) : syW way q ≤ 8 := by
  unfold syW
  have := h.2.2.2.1
  have := h.2.2.2.2.1
  split <;> omega
theorem mc_cost {m : Mem} {a n i : Nat} {e : Int32} {L : ArL} {q : Nat × Nat} (h : MC m a n e L) (hq : L[i]? = some q) : m (a + 1 + 2) i = nI q.2 := (h.2.2.2 i q hq).2
