theorem dr_af {d : Nat → Nat → Option Nat} {wa u : Nat → Bool} {c t : Nat} {mem : Nat → Nat} (hF : Fc d wa u c (t + 2) ≤ 32) (hu : UOf d wa c u) (hdc : ∀ k x y, k < c → x < 8 → d k x = some y → y < c) (hm : MemOf d wa u c t mem) : DOK (Fc d wa u c (t + 2)) (drD d (Gs d wa u (t + 2)) mem (Fc d wa u c (t + 2))) := by
  refine (AF.all (n := Fc d wa u c (t + 2)) (ru := fun _ => 0) (rl := fun _ => 0) (by omega) (fun q hq => ?_)).1
  obtain ⟨g, x, j, h, hg, hx, hdx, hGj, rfl⟩ := drD_mem.mp hq
  have hj := hdc (mem g) x j (hm g hg).1 hx hdx
  obtain ⟨h', hh, hGj', _⟩ := mt_live hu hdc hm hj (Gs_some hGj)
  rw [hGj] at hGj'
  have e := Option.some.inj hGj'
  exact ⟨g, x, x, h, 0, rfl, hg, by omega, by omega, by omega, by omega, fun h => by omega, fun h => by omega⟩
