def ClZ (way : Nat) (L : ArL) (w : List Nat) (K : Nat → Nat → Prop) (b k : Nat) : Prop := ∀ P : Nat → Nat → Prop, (∀ a j, K a j → P a j) → (∀ a j c b, P a j → Eg way L w a c b 8 → P b (j + c)) → P b k
theorem ClZ.rf {way : Nat} {L : ArL} {w : List Nat} {K : Nat → Nat → Prop} {a j : Nat} (h : K a j) : ClZ way L w K a j := fun P h0 _ => h0 a j h
theorem ClZ.st {way : Nat} {L : ArL} {w : List Nat} {K : Nat → Nat → Prop} {a j c b : Nat} (h : ClZ way L w K a j) (hE : Eg way L w a c b 8) : ClZ way L w K b (j + c) := fun P h0 hs => hs a j c b (h P h0 hs) hE
def SdZ (way : Nat) (L : ArL) (w : List Nat) : List Nat → Nat → Nat → Prop
  | [] => fun b k => b = 0 ∧ k = 0
  | x :: ρ => fun b k => ∃ a c j, ClZ way L w (SdZ way L w ρ) a j ∧ Eg way L w a c b x ∧ k = j + c
abbrev CpZ (way : Nat) (L : ArL) (w : List Nat) (ρ : List Nat) : Nat → Nat → Prop := ClZ way L w (SdZ way L w ρ)
theorem clz_lo {way n δ0 : Nat} {f : Nat → Bool} {L : ArL} {w : List Nat} {δ : Nat → Nat} {K : Nat → Nat → Prop} (hδ : IsD (eG way L w) (En n f w) δ) (hK : ∀ a j, K a j → δ a < 1000000000 → δ0 ≤ j + δ a) {a j : Nat} (h : ClZ way L w K a j) : δ a < 1000000000 → δ0 ≤ j + δ a := by
  refine h (fun a j => δ a < 1000000000 → δ0 ≤ j + δ a) hK (fun a j c b hP hE hb => ?_)
  obtain ⟨s1, s2⟩ := hδ.st ⟨8, hE⟩ hb
  have := hP s2
  omega
theorem sdz_lo {way n : Nat} {f : Nat → Bool} {L : ArL} {w : List Nat} {δ : Nat → Nat} (hδ : IsD (eG way L w) (En n f w) δ) : ∀ {ρ : List Nat} {b k : Nat}, SdZ way L w ρ b k → δ b < 1000000000 → δ 0 ≤ k + δ b
  | [], b, k, h, _ => by
    obtain ⟨h1, h2⟩ := h
    rw [h1]
    omega
  | x :: ρ, b, k, h, hb => by
    obtain ⟨a, c, j, h1, h2, h3⟩ := h
    obtain ⟨s1, s2⟩ := hδ.st ⟨x, h2⟩ hb
    have := clz_lo hδ (fun a j h => sdz_lo hδ h) h1 s2
    omega
theorem cpz_lo {way n : Nat} {f : Nat → Bool} {L : ArL} {w : List Nat} {δ : Nat → Nat} (hδ : IsD (eG way L w) (En n f w) δ) {ρ : List Nat} {a j : Nat} (h : CpZ way L w ρ a j) (ha : δ a < 1000000000) : δ 0 ≤ j + δ a := clz_lo hδ (fun a j h => sdz_lo hδ h) h ha
theorem clz_ti {way n δ0 : Nat} {f : Nat → Bool} {L : ArL} {w : List Nat} {δ : Nat → Nat} {K : Nat → Nat → Prop} {KT : Nat → Prop} (hδ : IsD (eG way L w) (En n f w) δ) (hK : ∀ a j, K a j → δ a < 1000000000 → δ0 ≤ j + δ a) (hT : ∀ a j, K a j → δ a < 1000000000 → j + δ a = δ0 → KT a) {a j : Nat} (h : ClZ way L w K a j) : δ a < 1000000000 → j + δ a = δ0 → CloK (Sy way L w δ true 8) KT a := by
  refine (h (fun a j => (δ a < 1000000000 → δ0 ≤ j + δ a) ∧ (δ a < 1000000000 → j + δ a = δ0 → CloK (Sy way L w δ true 8) KT a)) (fun a j h => ⟨hK a j h, fun h1 h2 => ⟨a, hT a j h h1 h2, Rc.rf⟩⟩) (fun a j c b hP hE => ⟨fun hb => ?_, fun hb he => ?_⟩)).2
  · obtain ⟨s1, s2⟩ := hδ.st ⟨8, hE⟩ hb
    have := hP.1 s2
    omega
  · obtain ⟨s1, s2⟩ := hδ.st ⟨8, hE⟩ hb
    have := hP.1 s2
    obtain ⟨a0, h0, hr⟩ := hP.2 s2 (by omega)
    exact ⟨a0, h0, hr.st ⟨c, hE, hb, fun _ => by omega⟩⟩
theorem sdz_ti {way n : Nat} {f : Nat → Bool} {L : ArL} {w : List Nat} {δ : Nat → Nat} (hδ : IsD (eG way L w) (En n f w) δ) : ∀ {ρ : List Nat} {b k : Nat}, SdZ way L w ρ b k → δ b < 1000000000 → k + δ b = δ 0 → SdR way L w δ true ρ b
  | [], b, k, h, _, _ => h.1
  | x :: ρ, b, k, h, hb, he => by
    obtain ⟨a, c, j, h1, h2, h3⟩ := h
    obtain ⟨s1, s2⟩ := hδ.st ⟨x, h2⟩ hb
    have := cpz_lo hδ h1 s2
    exact ⟨a, clz_ti hδ (fun a j h => sdz_lo hδ h) (fun a j h => sdz_ti hδ h) h1 s2 (by omega), c, h2, hb, fun _ => by omega⟩
theorem cpz_ti {way n : Nat} {f : Nat → Bool} {L : ArL} {w : List Nat} {δ : Nat → Nat} (hδ : IsD (eG way L w) (En n f w) δ) {ρ : List Nat} {a j : Nat} (h : CpZ way L w ρ a j) (ha : δ a < 1000000000) (he : j + δ a = δ 0) : CpR way L w δ true ρ a := clz_ti hδ (fun a j h => sdz_lo hδ h) (fun a j h => sdz_ti hδ h) h ha he
theorem clz_of {way : Nat} {L : ArL} {w : List Nat} {δ : Nat → Nat} {K : Nat → Prop} {KZ : Nat → Nat → Prop} {δ0 : Nat} (hK : ∀ a, K a → ∃ j, KZ a j ∧ j + δ a = δ0) {a : Nat} (h : CloK (Sy way L w δ true 8) K a) : ∃ j, ClZ way L w KZ a j ∧ j + δ a = δ0 := by
  obtain ⟨a0, h0, hr⟩ := h
  refine hr.cl (S := fun z => ∃ j, ClZ way L w KZ z j ∧ j + δ z = δ0) ?_ (fun y z hy hs => ?_)
  · obtain ⟨j, h1, h2⟩ := hK a0 h0
    exact ⟨j, ClZ.rf h1, h2⟩
  · obtain ⟨j, h1, h2⟩ := hy
    obtain ⟨c, hE, h3, h4⟩ := hs
    have h4 := h4 rfl
    exact ⟨j + c, h1.st hE, by omega⟩
theorem sdz_of {way : Nat} {L : ArL} {w : List Nat} {δ : Nat → Nat} : ∀ {ρ : List Nat} {b : Nat}, SdR way L w δ true ρ b → ∃ k, SdZ way L w ρ b k ∧ k + δ b = δ 0
  | [], b, h => by
    have h : b = 0 := h
    exact ⟨0, ⟨h, rfl⟩, by rw [h]; omega⟩
  | x :: ρ, b, h => by
    obtain ⟨a, h1, c, hE, h3, h4⟩ := h
    have h4 := h4 rfl
    obtain ⟨j, j1, j2⟩ := clz_of (KZ := SdZ way L w ρ) (fun a h => sdz_of h) h1
    exact ⟨j + c, ⟨a, c, j, j1, hE, rfl⟩, by omega⟩
theorem cpz_of {way : Nat} {L : ArL} {w : List Nat} {δ : Nat → Nat} {ρ : List Nat} {a : Nat} (h : CpR way L w δ true ρ a) : ∃ j, CpZ way L w ρ a j ∧ j + δ a = δ 0 := clz_of (fun a h => sdz_of h) h
def BdZ (way : Nat) (L : ArL) (w : List Nat) : Prop := ∀ ρ a j, ρ.length ≤ 287 → CpZ way L w ρ a j → j ≤ 300000000
theorem bdz_wU {u : Bool} {n : Nat} {L : ArL} {w : List Nat} (hok : DOK n L) (hn : n ≤ 32) (hw : w.length ≤ 8) (hu : Acy upr L) (hl : Acy lwr L) : BdZ (wU u) L w := by
  obtain ⟨φ, h1, h2⟩ := pot_wU (u := u) (δ := fun _ => 0) (ch := false) hok hn hw hu hl
  have hs : ∀ {a c b x : Nat}, Eg (wU u) L w a c b x → φ a + 1 ≤ φ b ∧ c ≤ 1000000 := by
    intro a c b x hE
    exact ⟨h1 x a b ⟨c, hE, by show 0 < 1000000000; omega, fun h => by cases h⟩, (eg_bd (way := wU u) hw hn hok a c b ⟨x, hE⟩).2.2⟩
  have cl : ∀ {K : Nat → Nat → Prop}, (∀ a j, K a j → j ≤ 1000000 * φ a) → ∀ {a j : Nat}, ClZ (wU u) L w K a j → j ≤ 1000000 * φ a := by
    intro K hK a j h
    refine h (fun a j => j ≤ 1000000 * φ a) hK (fun a j c b hP hE => ?_)
    have := hs hE
    show j + c ≤ 1000000 * φ b
    have hP : j ≤ 1000000 * φ a := hP
    omega
  have sd : ∀ ρ b k, SdZ (wU u) L w ρ b k → k ≤ 1000000 * φ b := by
    intro ρ
    induction ρ with
    | nil =>
      intro b k h
      have := h.2
      omega
    | cons x ρ ih =>
      rintro b k ⟨a, c, j, g1, g2, g3⟩
      have := cl (fun a j h => ih a j h) g1
      have := hs g2
      omega
  intro ρ a j _ h
  have := cl (fun a j h => sd ρ a j h) h
  have := h2 a
  omega
theorem bdz_w2 {n : Nat} {L : ArL} {w : List Nat} (hok : DOK n L) (hn : n ≤ 32) (hw : w.length ≤ 8) : BdZ 2 L w := by
  have hs : ∀ {a c b x : Nat}, Eg 2 L w a c b x → b / 32 ≤ 8 ∧ (x = 8 → c + a / 32 ≤ b / 32) ∧ c ≤ 1 ∧ a / 32 ≤ b / 32 := by
    rintro a c b x ⟨p, hp, hE⟩
    rcases hE with ⟨q, hq, e1, ea, eb, ex⟩ | ⟨q, hq, e1, ea, eb, ex⟩ | ⟨s, hs, e1, ea, eb, ex⟩
    · have f1 := (hok q hq).2.1
      have t1 := (hok q hq).2.2.1
      have ex : x = rdW 2 q := ex
      unfold cSt at e1
      rw [if_pos rfl] at e1
      have e2 := Option.some.inj e1
      by_cases c8 : rdW 2 q = 8
      · rw [if_pos c8] at e2
        exact ⟨by omega, fun _ => by omega, by omega, by omega⟩
      · rw [if_neg c8] at e2
        exact ⟨by omega, fun h => absurd (by rw [← ex]; exact h) c8, by omega, by omega⟩
    · have f1 := (hok q hq).2.1
      have t1 := (hok q hq).2.2.1
      have hpl := cRd_lt e1
      have hc : c ≤ 1 := by
        unfold cRd at e1
        cases hwp : w[p]? with
        | none => rw [hwp] at e1; cases e1
        | some y =>
          rw [hwp] at e1
          have e1 : (if rdW 2 q = 8 then none else if 2 = 2 then some (if rdW 2 q = y then 0 else 1) else if rdW 2 q = y then some q.2 else none) = some c := e1
          split at e1
          · cases e1
          · rw [if_pos rfl] at e1
            have e2 := Option.some.inj e1
            split at e2 <;> omega
      exact ⟨by omega, fun _ => by omega, hc, by omega⟩
    · have hpl := cSk_lt e1
      exact ⟨by omega, fun _ => by omega, by omega, by omega⟩
  have cl : ∀ {K : Nat → Nat → Prop} {l : Nat}, (∀ a j, K a j → j ≤ l + a / 32 ∧ a / 32 ≤ 8) → ∀ {a j : Nat}, ClZ 2 L w K a j → j ≤ l + a / 32 ∧ a / 32 ≤ 8 := by
    intro K l hK a j h
    refine h (fun a j => j ≤ l + a / 32 ∧ a / 32 ≤ 8) hK (fun a j c b hP hE => ?_)
    obtain ⟨h1, h2, h3, h4⟩ := hs hE
    have h2 := h2 rfl
    have hP : j ≤ l + a / 32 ∧ a / 32 ≤ 8 := hP
    show j + c ≤ l + b / 32 ∧ b / 32 ≤ 8
    omega
  have sd : ∀ ρ b k, SdZ 2 L w ρ b k → k ≤ ρ.length + b / 32 ∧ b / 32 ≤ 8 := by
    intro ρ
    induction ρ with
    | nil =>
      intro b k h
      obtain ⟨h1, h2⟩ := h
      show k ≤ 0 + b / 32 ∧ b / 32 ≤ 8
      omega
    | cons x ρ ih =>
      rintro b k ⟨a, c, j, g1, g2, g3⟩
      have h1 := cl (fun a j h => ih a j h) g1
      have h2 := hs g2
      show k ≤ ρ.length + 1 + b / 32 ∧ b / 32 ≤ 8
      omega
  intro ρ a j hρ h
  have := cl (fun a j h => sd ρ a j h) h
  omega
def HV (m : Mem) (cell : Nat) (V : Nat → Nat) (R : Nat → Nat → Prop) : Prop := ∀ a, a < 288 → m cell a = nI (V a) ∧ ((V a = 2000000000) ∨ (V a < 2000000000 ∧ R a (V a)))
theorem HV.top {m : Mem} {cell : Nat} {V : Nat → Nat} {R : Nat → Nat → Prop} (h : HV m cell V R) {a : Nat} (ha : a < 288) : V a ≤ 2000000000 := by
  rcases (h a ha).2 with x | ⟨x, _⟩ <;> omega
theorem HV.r {m : Mem} {cell : Nat} {V : Nat → Nat} {R : Nat → Nat → Prop} (h : HV m cell V R) {a : Nat} (ha : a < 288) (hl : V a < 2000000000) : R a (V a) := by
  rcases (h a ha).2 with x | ⟨_, x⟩
  · omega
  · exact x
theorem HV.cg {m m' : Mem} {cell : Nat} {V : Nat → Nat} {R : Nat → Nat → Prop} (h : HV m cell V R) (hf : m' cell = m cell) : HV m' cell V R := fun a ha => by rw [hf]; exact h a ha
theorem HV.up {m : Mem} {cell : Nat} {V : Nat → Nat} {R : Nat → Nat → Prop} {b v : Nat} (h : HV m cell V R) (hb : b < 288) (hv : v < V b → R b v) : HV (mup m cell b (nI (if v < V b then v else V b))) cell (lwV V b v) R := by
  intro a ha
  obtain ⟨e1, e2⟩ := h a ha
  unfold lwV
  rw [mup_if]
  by_cases e : a = b
  · subst e
    rw [if_pos rfl, if_pos rfl]
    refine ⟨rfl, ?_⟩
    have := h.top ha
    by_cases c : v < V a
    · rw [if_pos c]
      exact Or.inr ⟨by omega, hv c⟩
    · rw [if_neg c]; exact e2
  · rw [if_neg e, if_neg e]
    exact ⟨e1, e2⟩
theorem lwV_id {V : Nat → Nat} {a v : Nat} (h : ¬ v < V a) : lwV V a v = V := by
  funext y
  unfold lwV
  by_cases e : y = a
  · rw [if_pos e, if_neg h, e]
  · rw [if_neg e]
def TBs (way : Nat) (L : ArL) (w : List Nat) (δ : Nat → Nat) (m : Mem) (ρ : List Nat) : Prop := ∃ V, HV m 100 V (CpZ way L w ρ) ∧ ∀ a k, CpZ way L w ρ a k → δ a < 1000000000 → V a ≤ k
def TTs (way : Nat) (L : ArL) (w : List Nat) (δ : Nat → Nat) (m : Mem) (ρ : List Nat) : Prop := ∃ T, HV m 101 T (SdZ way L w ρ) ∧ ∀ a k, SdZ way L w ρ a k → δ a < 1000000000 → T a ≤ k
theorem min_cl {way n : Nat} {f : Nat → Bool} {L : ArL} {w : List Nat} {δ T V : Nat → Nat} {ρ : List Nat} (hδ : IsD (eG way L w) (En n f w) δ) (hB : BdZ way L w) (hρ : ρ.length ≤ 287) (hT : ∀ b k, SdZ way L w ρ b k → δ b < 1000000000 → T b ≤ k) (hle : ∀ a, V a ≤ T a) (hcl : ∀ a c b, Eg way L w a c b 8 → V a < 2000000000 → V b ≤ V a + c) (a k : Nat) (h : CpZ way L w ρ a k) (ha : δ a < 1000000000) : V a ≤ k := by
  refine (h (fun a j => CpZ way L w ρ a j ∧ (δ a < 1000000000 → V a ≤ j)) (fun a j h => ⟨ClZ.rf h, fun ha => Nat.le_trans (hle a) (hT a j h ha)⟩) (fun a j c b hP hE => ⟨hP.1.st hE, fun hb => ?_⟩)).2 ha
  obtain ⟨s1, s2⟩ := hδ.st ⟨8, hE⟩ hb
  have h1 := hP.2 s2
  have h2 := hB ρ a j hρ hP.1
  have h3 := hcl a c b hE (by omega)
  omega
theorem lv_iff {way n x lv : Nat} {f : Nat → Bool} {L : ArL} {w : List Nat} {δ : Nat → Nat} {ρ : List Nat} (hδ : IsD (eG way L w) (En n f w) δ) (h0 : δ 0 < 1000000000) (h1 : lv = 2000000000 ∨ ∃ b k, SdZ way L w (x :: ρ) b k ∧ δ b < 1000000000 ∧ lv = k + δ b) (h2 : ∀ b k, SdZ way L w (x :: ρ) b k → δ b < 1000000000 → lv ≤ k + δ b) : lv = δ 0 ↔ ∃ b, SdR way L w δ true (x :: ρ) b := by
  constructor
  · intro e
    rcases h1 with h1 | ⟨b, k, k1, k2, k3⟩
    · omega
    · exact ⟨b, sdz_ti hδ k1 k2 (by omega)⟩
  · rintro ⟨b, hb⟩
    obtain ⟨k, k1, k2⟩ := sdz_of hb
    have hbf : δ b < 1000000000 := sdr_fin h0 hb
    have h3 := h2 b k k1 hbf
    rcases h1 with h1 | ⟨b', k', y1, y2, y3⟩
    · omega
    · have := sdz_lo hδ y1 y2
      omega
theorem done_iff {way n s : Nat} {f : Nat → Bool} {L : ArL} {w : List Nat} {δ V : Nat → Nat} {m : Mem} {ρ : List Nat} (hδ : IsD (eG way L w) (En n f w) δ) (h0 : δ 0 < 1000000000) (hV : HV m 100 V (CpZ way L w ρ)) (hmin : ∀ a k, CpZ way L w ρ a k → δ a < 1000000000 → V a ≤ k) (hs : s < n) (hn : n ≤ 32) (hw : w.length ≤ 8) (hf : f s = true) : V (32 * w.length + s) = δ 0 ↔ CpR way L w δ true ρ (32 * w.length + s) := by
  have e0 : δ (32 * w.length + s) = 0 := hδ.en ⟨s, hs, hf, rfl⟩
  constructor
  · intro e
    exact cpz_ti hδ (hV.r (by omega) (by omega)) (by omega) (by omega)
  · intro h
    obtain ⟨j, j1, j2⟩ := cpz_of h
    have h1 := hmin _ _ j1 (by omega)
    have h2 := cpz_lo hδ (hV.r (a := 32 * w.length + s) (by omega) (by omega)) (by omega)
    omega
