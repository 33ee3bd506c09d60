def Wn (Eg : Nat → Nat → Nat → Prop) (En : Nat → Prop) : Nat → Nat → Nat → Prop
  | 0 => fun a k => En a ∧ k = 0
  | n + 1 => fun a k => ∃ c b k', Eg a c b ∧ Wn Eg En n b k' ∧ k = c + k'
def Wy (Eg : Nat → Nat → Nat → Prop) (En : Nat → Prop) (a k : Nat) : Prop := ∃ n, Wn Eg En n a k
def Ds (Eg : Nat → Nat → Nat → Prop) (En : Nat → Prop) (a k : Nat) : Prop := Wy Eg En a k ∧ ∀ k', Wy Eg En a k' → k ≤ k'
theorem wy_en {Eg : Nat → Nat → Nat → Prop} {En : Nat → Prop} {a : Nat} (h : En a) : Wy Eg En a 0 := ⟨0, h, rfl⟩
theorem wy_st {Eg : Nat → Nat → Nat → Prop} {En : Nat → Prop} {a c b k : Nat} (h : Eg a c b) (h2 : Wy Eg En b k) : Wy Eg En a (c + k) := by
  obtain ⟨n, hn⟩ := h2
  exact ⟨n + 1, c, b, k, h, hn, rfl⟩
theorem ds_ex {Eg : Nat → Nat → Nat → Prop} {En : Nat → Prop} {a k : Nat} (h : Wy Eg En a k) : ∃ k0, Ds Eg En a k0 := by
  obtain ⟨k0, h1, h2⟩ := first_ex (P := fun k => Wy Eg En a k) ⟨k, h⟩
  refine ⟨k0, h1, fun k' hk' => ?_⟩
  rcases Nat.lt_or_ge k' k0 with c | c
  · exact absurd hk' (h2 k' c)
  · exact c
theorem ds_uq {Eg : Nat → Nat → Nat → Prop} {En : Nat → Prop} {a k k' : Nat} (h : Ds Eg En a k) (h' : Ds Eg En a k') : k = k' := by
  have := h.2 k' h'.1
  have := h'.2 k h.1
  omega
def EB (Eg : Nat → Nat → Nat → Prop) : Prop := ∀ a c b, Eg a c b → a < 288 ∧ b < 288 ∧ c ≤ 1000000
theorem ds_bd {Eg : Nat → Nat → Nat → Prop} {En : Nat → Prop} (hb : EB Eg) : ∀ K k, k ≤ K → ∀ n a, Wn Eg En n a k → (∀ k', Wy Eg En a k' → k ≤ k') → ∀ B : Nat → Bool, (∀ b k', Ds Eg En b k' → k' < k → b < 288 → B b = true) → k ≤ 1000000 * cnt B 288 := by
  intro K
  induction K with
  | zero => intro k hk n a _ _ B _; omega
  | succ K ihK =>
    intro k hk n
    induction n with
    | zero => intro a h _ B _; rw [h.2]; exact Nat.zero_le _
    | succ n ihn =>
      rintro a ⟨c, b, k', h1, h2, h3⟩ hm B hB
      have hm' : ∀ k'', Wy Eg En b k'' → k' ≤ k'' := by
        intro k'' hk''
        have := hm _ (wy_st h1 hk'')
        omega
      rcases Nat.eq_zero_or_pos c with e | e
      · have e2 : k = k' := by omega
        rw [e2]
        exact ihn b (by rw [e2]; exact h2) (by rw [e2]; exact hm') B hB |> fun h => by omega
      · classical
        have hB' := ihK k' (by omega) n b h2 hm' (fun x => decide ((∃ k'', Ds Eg En x k'' ∧ k'' < k') ∧ x < 288)) (fun x k'' hx hlt hx2 => decide_eq_true ⟨⟨k'', hx, hlt⟩, hx2⟩)
        have hlt := cnt_lt (a := fun x => decide ((∃ k'', Ds Eg En x k'' ∧ k'' < k') ∧ x < 288)) (b := B) (fun x hx => by
          have hx := of_decide_eq_true hx
          obtain ⟨⟨k'', hx1, hx2⟩, hx3⟩ := hx
          exact hB x k'' hx1 (by omega) hx3) (hB b k' ⟨⟨n, h2⟩, hm'⟩ (by omega) (hb a c b h1).2.1) (decide_eq_false (fun h => by
          obtain ⟨⟨k'', hx1, hx2⟩, _⟩ := h
          have := hm' k'' hx1.1
          omega)) 288 (hb a c b h1).2.1
        have hc := (hb a c b h1).2.2
        omega
theorem cnt_top (B : Nat → Bool) : cnt B 288 ≤ 288 := cnt_le B 288
def IsD (Eg : Nat → Nat → Nat → Prop) (En : Nat → Prop) (δ : Nat → Nat) : Prop := ∀ a, (δ a < 1000000000 ∧ Ds Eg En a (δ a)) ∨ (δ a = 1000000000 ∧ ∀ k, ¬ Wy Eg En a k)
theorem ds_lt {Eg : Nat → Nat → Nat → Prop} {En : Nat → Prop} {a k : Nat} (hb : EB Eg) (h : Ds Eg En a k) : k ≤ 288000000 := by
  obtain ⟨⟨n, hn⟩, hm⟩ := h
  have h1 := ds_bd hb k k (Nat.le_refl _) n a hn hm (fun _ => true) (fun _ _ _ _ _ => rfl)
  have h2 := cnt_top (fun _ => true)
  omega
theorem isd_ex {Eg : Nat → Nat → Nat → Prop} {En : Nat → Prop} (hb : EB Eg) : ∃ δ, IsD Eg En δ := by
  have hch : ∀ a, ∃ k, (k < 1000000000 ∧ Ds Eg En a k) ∨ (k = 1000000000 ∧ ∀ k, ¬ Wy Eg En a k) := by
    intro a
    by_cases c : ∃ k, Wy Eg En a k
    · obtain ⟨k, hk⟩ := c
      obtain ⟨k0, h0⟩ := ds_ex hk
      have := ds_lt hb h0
      exact ⟨k0, Or.inl ⟨by omega, h0⟩⟩
    · exact ⟨_, Or.inr ⟨rfl, fun k hk => c ⟨k, hk⟩⟩⟩
  obtain ⟨δ, h⟩ := Classical.axiomOfChoice hch
  exact ⟨δ, h⟩
theorem IsD.uq {Eg : Nat → Nat → Nat → Prop} {En : Nat → Prop} {δ δ' : Nat → Nat} (h : IsD Eg En δ) (h' : IsD Eg En δ') (a : Nat) : δ a = δ' a := by
  rcases h a with ⟨_, h1⟩ | ⟨e1, h1⟩ <;> rcases h' a with ⟨_, h2⟩ | ⟨e2, h2⟩
  · exact ds_uq h1 h2
  · exact absurd h1.1 (h2 _)
  · exact absurd h2.1 (h1 _)
  · rw [e1, e2]
theorem IsD.le {Eg : Nat → Nat → Nat → Prop} {En : Nat → Prop} {δ : Nat → Nat} (h : IsD Eg En δ) (hb : EB Eg) (a : Nat) : δ a ≤ 288000000 ∨ δ a = 1000000000 := by
  rcases h a with ⟨_, h1⟩ | ⟨e1, _⟩
  · exact Or.inl (ds_lt hb h1)
  · exact Or.inr e1
theorem IsD.en {Eg : Nat → Nat → Nat → Prop} {En : Nat → Prop} {δ : Nat → Nat} (h : IsD Eg En δ) {a : Nat} (he : En a) : δ a = 0 := by
  rcases h a with ⟨_, h1⟩ | ⟨_, h1⟩
  · have := h1.2 0 (wy_en he); omega
  · exact absurd (wy_en he) (h1 0)
theorem IsD.st {Eg : Nat → Nat → Nat → Prop} {En : Nat → Prop} {δ : Nat → Nat} (h : IsD Eg En δ) {a c b : Nat} (he : Eg a c b) (hlt : δ b < 1000000000) : δ a ≤ δ b + c ∧ δ a < 1000000000 := by
  rcases h b with ⟨_, h1⟩ | ⟨e1, _⟩
  · have hw := wy_st he h1.1
    rcases h a with ⟨h3, h2⟩ | ⟨_, h2⟩
    · have := h2.2 _ hw; omega
    · exact absurd hw (h2 _)
  · omega
theorem IsD.nx {Eg : Nat → Nat → Nat → Prop} {En : Nat → Prop} {δ : Nat → Nat} (h : IsD Eg En δ) {a n : Nat} (hn : Wn Eg En (n + 1) a (δ a)) (hlt : δ a < 1000000000) : ∃ c b, Eg a c b ∧ δ b < 1000000000 ∧ δ a = δ b + c ∧ Wn Eg En n b (δ b) := by
  obtain ⟨c, b, k', h1, h2, h3⟩ := hn
  have hw : Wy Eg En b k' := ⟨n, h2⟩
  rcases h b with ⟨h4, h5⟩ | ⟨_, h5⟩
  · have h6 := h5.2 _ hw
    have h7 := (h.st h1 h4).1
    have e : k' = δ b := by omega
    rw [e] at h2
    exact ⟨c, b, h1, h4, by omega, h2⟩
  · exact absurd hw (h5 _)
theorem relax {Eg : Nat → Nat → Nat → Prop} {En : Nat → Prop} {δ V V' : Nat → Nat} {X : Nat → Prop} (h : IsD Eg En δ) (hb : EB Eg) (lo : ∀ a, X a → δ a ≤ V' a) (le : ∀ a, X a → V' a ≤ V a) (top : ∀ a, X a → V a ≤ 1000000000) (en : ∀ a, X a → En a → V' a = 0) (st : ∀ a c b, X a → Eg a c b → V b = δ b → δ b + c < 1000000000 → V' a ≤ δ b + c) (cl : ∀ a c b, X a → Eg a c b → X b ∨ V b = δ b) :
    (∀ a, X a → V a = δ a) ∨ ∃ a, X a ∧ V a ≠ δ a ∧ V' a = δ a := by
  have key : ∀ n a, X a → V a ≠ δ a → δ a < 1000000000 → Wn Eg En n a (δ a) → ∃ a, X a ∧ V a ≠ δ a ∧ V' a = δ a := by
    intro n
    induction n with
    | zero =>
      intro a ha hne hlt hw
      exact ⟨a, ha, hne, by rw [en a ha hw.1, hw.2]⟩
    | succ n ih =>
      intro a ha hne hlt hw
      obtain ⟨c, b, h1, h2, h3, h4⟩ := h.nx hw hlt
      by_cases e : V b = δ b
      · refine ⟨a, ha, hne, ?_⟩
        have := st a c b ha h1 e (by omega)
        have := lo a ha
        omega
      · rcases cl a c b ha h1 with hx | hx
        · exact ih b hx e h2 h4
        · exact absurd hx e
  by_cases c : ∀ a, X a → V a = δ a
  · exact Or.inl c
  · right
    have c : ∃ a, X a ∧ V a ≠ δ a := Classical.byContradiction (fun hn => c (fun a ha => Classical.byContradiction (fun hne => hn ⟨a, ha, hne⟩)))
    obtain ⟨a, ha, hne⟩ := c
    rcases h a with ⟨h1, ⟨n, hn⟩, _⟩ | ⟨e1, _⟩
    · exact key n a ha hne h1 hn
    · have := lo a ha
      have := le a ha
      have := top a ha
      exact absurd (by omega) hne
