def Fx (lo hi : Nat) (J : List Nat) (m m' : Mem) : Prop := (∀ c, c ≠ 70 → (c < lo ∨ hi ≤ c) → m' c = m c) ∧ ∀ j, ¬ j ∈ J → m' 70 j = m 70 j
theorem Fx.rf {lo hi : Nat} {J : List Nat} {m : Mem} : Fx lo hi J m m := ⟨fun _ _ _ => rfl, fun _ _ => rfl⟩
theorem Fx.tr {lo hi : Nat} {J : List Nat} {m m' m'' : Mem} (h : Fx lo hi J m m') (h2 : Fx lo hi J m' m'') : Fx lo hi J m m'' := ⟨fun c c1 c2 => by rw [h2.1 c c1 c2, h.1 c c1 c2], fun j hj => by rw [h2.2 j hj, h.2 j hj]⟩
theorem Fx.wd {lo hi lo' hi' : Nat} {J J' : List Nat} {m m' : Mem} (h : Fx lo hi J m m') (h1 : lo' ≤ lo) (h2 : hi ≤ hi') (h3 : ∀ j, j ∈ J → j ∈ J') : Fx lo' hi' J' m m' := ⟨fun c c1 c2 => h.1 c c1 (by omega), fun j hj => h.2 j (fun h => hj (h3 j h))⟩
theorem Fx.up {lo hi : Nat} {J : List Nat} {m m' : Mem} {k j : Nat} {x : Int32} (h : Fx lo hi J m m') (h1 : lo ≤ k) (h2 : k < hi) (h3 : k ≠ 70) : Fx lo hi J m (mup m' k j x) := ⟨fun c c1 c2 => by rw [mup_r (by omega), h.1 c c1 c2], fun i hi => by rw [mup_c (Ne.symm h3), h.2 i hi]⟩
theorem Fx.sl {lo hi : Nat} {J : List Nat} {m m' : Mem} {j : Nat} {x : Int32} (h : Fx lo hi J m m') (h1 : j ∈ J) : Fx lo hi J m (mup m' 70 j x) := ⟨fun c c1 c2 => by rw [mup_r c1, h.1 c c1 c2], fun i hi => by rw [mup_j (fun e => hi (by rw [e]; exact h1)), h.2 i hi]⟩
theorem Fx.at {lo hi : Nat} {J : List Nat} {m m' : Mem} (h : Fx lo hi J m m') {c : Nat} (c1 : c ≠ 70) (c2 : c < lo ∨ hi ≤ c) (i : Nat) : m' c i = m c i := by rw [h.1 c c1 c2]
def MW (m : Mem) (E : Nat → Bool) (D : ArL) : Prop := m 70 14 = nI D.length ∧ RW m 80 81 D ∧ ∀ s, s < 1024 → m 82 s = bI (E s)
theorem MW.cg {m m' : Mem} {E : Nat → Bool} {D : ArL} (h : MW m E D) (h1 : m' 70 14 = m 70 14) (h2 : m' 80 = m 80) (h3 : m' 81 = m 81) (h4 : m' 82 = m 82) : MW m' E D := ⟨by rw [h1]; exact h.1, h.2.1.cg h2 h3, fun s hs => by rw [h4]; exact h.2.2 s hs⟩
theorem pk_packedM {s u l t : Nat} (hs : s < 4096) (hu : u < 16) (hl : l < 16) (ht : t < 1024) : ((q_shl (nI s) (nI 18) ||| q_shl (nI u) (nI 14)) ||| q_shl (nI l) (nI 10)) ||| nI t = nI (pkA s u l t) := pk_packed hs hu hl ht
def cnt (b : Nat → Bool) : Nat → Nat
  | 0 => 0
  | n + 1 => cnt b n + (if b n then 1 else 0)
theorem cnt_le (b : Nat → Bool) : ∀ n, cnt b n ≤ n
  | 0 => Nat.le_refl _
  | n + 1 => by
    have := cnt_le b n
    rw [cnt]
    split <;> omega
theorem cnt_mono {a b : Nat → Bool} (h : ∀ s, a s = true → b s = true) : ∀ n, cnt a n ≤ cnt b n
  | 0 => Nat.le_refl _
  | n + 1 => by
    have := cnt_mono h n
    rw [cnt, cnt]
    by_cases ha : a n = true
    · rw [if_pos ha, if_pos (h n ha)]; omega
    · rw [if_neg ha]; omega
theorem cnt_lt {a b : Nat → Bool} (h : ∀ s, a s = true → b s = true) {x : Nat} (hb : b x = true) (ha : a x = false) : ∀ n, x < n → cnt a n < cnt b n
  | 0, h0 => absurd h0 (Nat.not_lt_zero _)
  | n + 1, hx => by
    rw [cnt, cnt]
    by_cases e : x = n
    · subst e
      have := cnt_mono h x
      rw [if_neg (by rw [ha]; simp), if_pos hb]
      omega
    · have := cnt_lt h hb ha n (by omega)
      by_cases ha : a n = true
      · rw [if_pos ha, if_pos (h n ha)]; omega
      · rw [if_neg ha]; omega
def MR (m : Mem) (rd us : Nat → Bool) : Prop := ∀ s, s < 1024 → m 83 s = bI (rd s) ∧ m 84 s = bI (us s)
def upO (b : Nat → Bool) (t : Nat) (x : Bool) : Nat → Bool := fun s => b s || (decide (s = t) && x)
theorem upO_t {b : Nat → Bool} {t s : Nat} {x : Bool} : upO b t x s = true ↔ b s = true ∨ (s = t ∧ x = true) := by unfold upO; simp
theorem MR.up {m : Mem} {rd us : Nat → Bool} {s t : Nat} {a b : Bool} (h : MR m rd us) (hs : s < 1024) (ht : t < 1024) : MR (mup (mup m 83 t (bI (rd t || a))) 84 s (bI (us s || b))) (upO rd t a) (upO us s b) := by
  intro x hx
  constructor
  · rw [mup_c (by omega), mup_if]
    unfold upO
    split
    · rename_i e; rw [e]; simp
    · rename_i e; rw [(h x hx).1]; simp [e]
  · rw [mup_if]
    unfold upO
    split
    · rename_i e; rw [e]; simp
    · rename_i e; rw [mup_c (by omega), (h x hx).2]; simp [e]
