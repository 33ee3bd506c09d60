theorem pot_w2 {n : Nat} {L : ArL} {w : List Nat} {δ : Nat → Nat} (hok : DOK n L) (hn : n ≤ 32) (hw : w.length ≤ 8) (hu : Acy upr L) : ∃ φ : Nat → Nat, (∀ x a b, Sy 2 L w δ true x a b → φ a < φ b) ∧ ∀ a, φ a ≤ 287 := by
  obtain ⟨r, _, r2, r3⟩ := acy_bd hu hok
  obtain ⟨g, hg⟩ : ∃ g : Nat → Nat, ∀ z, g z = if z % 32 < n then r (z % 32) else 0 := ⟨_, fun _ => rfl⟩
  have rl : ∀ z, g z < 32 := by
    intro z
    rw [hg]
    split
    · rename_i hz
      have := r2 _ hz
      omega
    · omega
  obtain ⟨κ, hκ⟩ : ∃ κ : Nat → Nat, ∀ a, κ a = 1000 * δ a + 40 * (8 - a / 32) + g a := ⟨_, fun _ => rfl⟩
  have key : ∀ x a b, Sy 2 L w δ true x a b → a < 288 ∧ b < 288 ∧ κ b < κ a := by
    intro x a b h
    obtain ⟨c, ⟨p, hp, hE⟩, h1, h2⟩ := h
    have h2 := h2 rfl
    have ra := rl a
    have rb := rl b
    have ka := hκ a
    have kb := hκ b
    rcases hE with ⟨q, hq, e1, ea, eb, _⟩ | ⟨q, hq, e1, ea, eb, _⟩ | ⟨s, hs, e1, ea, eb, _⟩
    · have f1 := (hok q hq).2.1
      have t1 := (hok q hq).2.2.1
      refine ⟨by omega, by omega, ?_⟩
      have da : a / 32 = p := by omega
      have db : b / 32 = p := by omega
      rw [da] at ka
      rw [db] at kb
      unfold cSt at e1
      rw [if_pos rfl] at e1
      have e2 := Option.some.inj e1
      by_cases c8 : rdW 2 q = 8
      · rw [if_pos c8] at e2
        have e3 := r3 q hq c8
        have ga := hg a
        have gb := hg b
        rw [show a % 32 = fr q.1 by omega, if_pos f1] at ga
        rw [show b % 32 = too q.1 by omega, if_pos t1] at gb
        omega
      · rw [if_neg c8] at e2
        omega
    · have f1 := (hok q hq).2.1
      have t1 := (hok q hq).2.2.1
      have hpl := cRd_lt e1
      refine ⟨by omega, by omega, ?_⟩
      have da : a / 32 = p := by omega
      have db : b / 32 = p + 1 := by omega
      rw [da] at ka
      rw [db] at kb
      omega
    · have hpl := cSk_lt e1
      refine ⟨by omega, by omega, ?_⟩
      have da : a / 32 = p := by omega
      have db : b / 32 = p + 1 := by omega
      rw [da] at ka
      rw [db] at kb
      omega
  refine ⟨fun a => if a < 288 then cnt (fun z => decide (κ a < κ z)) 288 else 0, fun x a b h => ?_, fun a => ?_⟩
  · obtain ⟨ha, hb, hk⟩ := key x a b h
    show (if a < 288 then cnt (fun z => decide (κ a < κ z)) 288 else 0) < (if b < 288 then cnt (fun z => decide (κ b < κ z)) 288 else 0)
    rw [if_pos ha, if_pos hb]
    refine cnt_lt (a := fun z => decide (κ a < κ z)) (b := fun z => decide (κ b < κ z)) (fun s hs => ?_) (x := a) (decide_eq_true hk) (decide_eq_false (Nat.lt_irrefl _)) 288 ha
    have hs := of_decide_eq_true hs
    exact decide_eq_true (Nat.lt_trans hk hs)
  · show (if a < 288 then cnt (fun z => decide (κ a < κ z)) 288 else 0) ≤ 287
    split
    · rename_i ha
      have h1 := cnt_lt (a := fun z => decide (κ a < κ z)) (b := fun _ => true) (fun _ _ => rfl) (x := a) rfl (decide_eq_false (Nat.lt_irrefl _)) 288 ha
      have h2 := cnt_le (fun _ => true) 288
      omega
    · omega
