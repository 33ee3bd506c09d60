/-! the start: what the constructors leave, as the world of mem0 -/
def ordT : List Nat := [0, 1, 2, 99, 100, 101, 102, 103, 104, 105, 106, 107, 108, 109, 110, 111, 999, 999, 999, 999, 112, 113, 114, 115, 116, 117, 118, 119, 120, 121, 122, 123, 124, 125, 126, 127, 999, 999, 999, 999, 128, 129, 134, 135, 136, 137, 138, 139, 140, 141, 999, 999, 999, 999, 999, 999, 999, 999, 999, 999, 142, 143, 144, 145, 146, 147, 999, 999, 999, 999, 148, 999, 999, 999, 999, 999, 999, 999, 999, 999, 999, 999, 999, 999, 999, 999, 999, 999, 999, 999, 999, 999, 999, 999, 999, 999, 999, 999, 999, 999, 999, 999, 999, 999, 999, 999, 999, 999, 999, 999, 999, 999, 999, 999, 999, 999, 999, 999, 999, 999, 999, 999, 999, 999, 999, 999, 999, 999, 999, 999, 999, 999, 999, 999, 999, 999, 999, 999, 999, 999, 999, 999, 999, 999, 999, 999, 999, 999, 999, 999, 999, 999, 999, 999, 999, 999, 999, 999, 999, 999, 999, 999, 999, 999, 999, 999, 999, 999, 999, 999, 999, 999, 999, 999, 999, 999, 999, 999, 999, 999, 999, 999, 999, 999, 999, 999, 999, 999, 999, 999, 999, 999, 999, 999, 999, 999, 999, 999, 999, 999, 3, 4, 5, 6, 7, 8, 9, 10, 11, 12, 13, 14, 15, 16, 17, 18, 19, 20, 21, 22, 23, 24, 25, 26, 27, 28, 29, 30, 31, 32, 33, 34, 35, 36, 37, 38, 39, 40, 41, 42, 43, 44, 45, 46, 47, 48, 49, 50, 51, 52, 53, 54, 55, 56, 57, 58, 59, 60, 61, 62, 63, 64, 65, 66, 67, 68, 69, 70, 71, 72, 73, 74, 75, 76, 77, 78, 79, 80, 81, 82, 83, 84, 85, 86, 87, 88, 89, 90, 91, 92, 93, 94, 95, 96, 97, 98, 130, 131, 132, 133]
def mem0 : Mem := fun k j => if 200 ≤ k then (if k % 4 = 0 then (if j = 1 then 1 else 0) else 0) else if k = 3 then (if j = 3 then 1 else 0) else if k = 40 then (if j = 2 then nI 296 else 0) else if k = 20 then (if j = 10 then nI 33 else if j = 11 then nI 34 else 0) else 0
def ordA (k : Nat) : Nat := ordT.getD k 999
theorem arrV_congr {cA : ClassId} {N : Nat} {f g : Nat → Value} (h : ∀ j, j < N → f j = g j) : arrV cA N f = arrV cA N g := by
  unfold arrV
  congr 1
  congr 1
  funext j
  exact h j.1 j.2
def clF (G : GT) : List va_E := cw_X7_init 0 G ++ [.inl (G.2.2.1 0, 8, .inl (fun _ => 0))]
abbrev g0 (dC : Nat → ClassId) (dI : Nat → Nat → Nat) (cT : Nat → ClassId) (sz : Nat) : GT := (dC, dI, cT, fun i => sz + i)
abbrev g1 (dC : Nat → ClassId) (dI : Nat → Nat → Nat) (cT : Nat → ClassId) (sz : Nat) : GT := (dC, dI, cT, fun k => sz + ordA k)
theorem flg_g1 (dC : Nat → ClassId) (dI : Nat → Nat → Nat) (cT : Nat → ClassId) (sz : Nat) : flg (g1 dC dI cT sz) = false := by
  show decide (sz + ordA 2147483651 = 1) = false
  rw [show ordA 2147483651 = 999 from rfl]
  exact decide_eq_false (by omega)
def stOK (dC : Nat → ClassId) (dI : Nat → Nat → Nat) (cT : Nat → ClassId) (sz k : Nat) : Prop :=
  ∃ e, (clF (g0 dC dI cT sz))[ordA k]? = some e ∧ ∀ H, va_at (dC, dI) vwCl (sz + ordA k, e) H → va_at (dC, dI) vwCl (sz + ordA k, cell (g1 dC dI cT sz) k (mem0 k)) H
set_option maxRecDepth 100000 in
theorem st_0 (dC : Nat → ClassId) (dI : Nat → Nat → Nat) (cT : Nat → ClassId) (sz : Nat) : stOK dC dI cT sz 0 := ⟨_, rfl, fun _ h => h⟩
set_option maxRecDepth 100000 in
theorem st_1 (dC : Nat → ClassId) (dI : Nat → Nat → Nat) (cT : Nat → ClassId) (sz : Nat) : stOK dC dI cT sz 1 := ⟨_, rfl, fun _ h => h⟩
set_option maxRecDepth 100000 in
theorem st_2 (dC : Nat → ClassId) (dI : Nat → Nat → Nat) (cT : Nat → ClassId) (sz : Nat) : stOK dC dI cT sz 2 := by
  refine ⟨_, rfl, fun H h => ?_⟩
  have h1 : H[sz + ordA 2]? = some (vp_cell (cT 2) _) := h
  show H[sz + ordA 2]? = some (vp_cell (cT 2) (24, .inr (.inr (.inr (.inr (fun i => some (sz + ordA (200 + 4 * i))))))))
  rw [h1, vp_cell_q, vp_cell_q]
  refine congrArg some (arrV_congr (fun j hj => ?_))
  have hj24 : ∀ j, j < 24 → (va_up (va_up (va_up (va_up (va_up (va_up (va_up (va_up (va_up (va_up (va_up (va_up (va_up (va_up (va_up (va_up (va_up (va_up (va_up (va_up (va_up (va_up (va_up (va_up (fun _ => none) (ix 0) (some (sz + (0 + 3)))) (ix 1) (some (sz + (0 + 7)))) (ix 2) (some (sz + (0 + 11)))) (ix 3) (some (sz + (0 + 15)))) (ix 4) (some (sz + (0 + 19)))) (ix 5) (some (sz + (0 + 23)))) (ix 6) (some (sz + (0 + 27)))) (ix 7) (some (sz + (0 + 31)))) (ix 8) (some (sz + (0 + 35)))) (ix 9) (some (sz + (0 + 39)))) (ix 10) (some (sz + (0 + 43)))) (ix 11) (some (sz + (0 + 47)))) (ix 12) (some (sz + (0 + 51)))) (ix 13) (some (sz + (0 + 55)))) (ix 14) (some (sz + (0 + 59)))) (ix 15) (some (sz + (0 + 63)))) (ix 16) (some (sz + (0 + 67)))) (ix 17) (some (sz + (0 + 71)))) (ix 18) (some (sz + (0 + 75)))) (ix 19) (some (sz + (0 + 79)))) (ix 20) (some (sz + (0 + 83)))) (ix 21) (some (sz + (0 + 87)))) (ix 22) (some (sz + (0 + 91)))) (ix 23) (some (sz + (0 + 95))) : Nat → Option Nat) j = some (sz + ordA (200 + 4 * j)) := by
    intro j hj
    match j, hj with
    | 0, _ => rfl
    | 1, _ => rfl
    | 2, _ => rfl
    | 3, _ => rfl
    | 4, _ => rfl
    | 5, _ => rfl
    | 6, _ => rfl
    | 7, _ => rfl
    | 8, _ => rfl
    | 9, _ => rfl
    | 10, _ => rfl
    | 11, _ => rfl
    | 12, _ => rfl
    | 13, _ => rfl
    | 14, _ => rfl
    | 15, _ => rfl
    | 16, _ => rfl
    | 17, _ => rfl
    | 18, _ => rfl
    | 19, _ => rfl
    | 20, _ => rfl
    | 21, _ => rfl
    | 22, _ => rfl
    | 23, _ => rfl
    | j + 24, hj => omega
  rw [← hj24 j hj]
set_option maxRecDepth 100000 in
theorem st_3 (dC : Nat → ClassId) (dI : Nat → Nat → Nat) (cT : Nat → ClassId) (sz : Nat) : stOK dC dI cT sz 3 := ⟨_, rfl, fun _ h => h⟩
set_option maxRecDepth 100000 in
theorem st_4 (dC : Nat → ClassId) (dI : Nat → Nat → Nat) (cT : Nat → ClassId) (sz : Nat) : stOK dC dI cT sz 4 := ⟨_, rfl, fun _ h => h⟩
set_option maxRecDepth 100000 in
theorem st_5 (dC : Nat → ClassId) (dI : Nat → Nat → Nat) (cT : Nat → ClassId) (sz : Nat) : stOK dC dI cT sz 5 := ⟨_, rfl, fun _ h => h⟩
set_option maxRecDepth 100000 in
theorem st_6 (dC : Nat → ClassId) (dI : Nat → Nat → Nat) (cT : Nat → ClassId) (sz : Nat) : stOK dC dI cT sz 6 := ⟨_, rfl, fun _ h => h⟩
set_option maxRecDepth 100000 in
theorem st_7 (dC : Nat → ClassId) (dI : Nat → Nat → Nat) (cT : Nat → ClassId) (sz : Nat) : stOK dC dI cT sz 7 := ⟨_, rfl, fun _ h => h⟩
set_option maxRecDepth 100000 in
theorem st_8 (dC : Nat → ClassId) (dI : Nat → Nat → Nat) (cT : Nat → ClassId) (sz : Nat) : stOK dC dI cT sz 8 := ⟨_, rfl, fun _ h => h⟩
set_option maxRecDepth 100000 in
theorem st_9 (dC : Nat → ClassId) (dI : Nat → Nat → Nat) (cT : Nat → ClassId) (sz : Nat) : stOK dC dI cT sz 9 := ⟨_, rfl, fun _ h => h⟩
set_option maxRecDepth 100000 in
theorem st_10 (dC : Nat → ClassId) (dI : Nat → Nat → Nat) (cT : Nat → ClassId) (sz : Nat) : stOK dC dI cT sz 10 := ⟨_, rfl, fun _ h => h⟩
set_option maxRecDepth 100000 in
theorem st_11 (dC : Nat → ClassId) (dI : Nat → Nat → Nat) (cT : Nat → ClassId) (sz : Nat) : stOK dC dI cT sz 11 := ⟨_, rfl, fun _ h => h⟩
set_option maxRecDepth 100000 in
theorem st_12 (dC : Nat → ClassId) (dI : Nat → Nat → Nat) (cT : Nat → ClassId) (sz : Nat) : stOK dC dI cT sz 12 := ⟨_, rfl, fun _ h => h⟩
set_option maxRecDepth 100000 in
theorem st_13 (dC : Nat → ClassId) (dI : Nat → Nat → Nat) (cT : Nat → ClassId) (sz : Nat) : stOK dC dI cT sz 13 := ⟨_, rfl, fun _ h => h⟩
set_option maxRecDepth 100000 in
theorem st_14 (dC : Nat → ClassId) (dI : Nat → Nat → Nat) (cT : Nat → ClassId) (sz : Nat) : stOK dC dI cT sz 14 := ⟨_, rfl, fun _ h => h⟩
set_option maxRecDepth 100000 in
theorem st_15 (dC : Nat → ClassId) (dI : Nat → Nat → Nat) (cT : Nat → ClassId) (sz : Nat) : stOK dC dI cT sz 15 := ⟨_, rfl, fun _ h => h⟩
set_option maxRecDepth 100000 in
theorem st_20 (dC : Nat → ClassId) (dI : Nat → Nat → Nat) (cT : Nat → ClassId) (sz : Nat) : stOK dC dI cT sz 20 := ⟨_, rfl, fun _ h => h⟩
set_option maxRecDepth 100000 in
theorem st_21 (dC : Nat → ClassId) (dI : Nat → Nat → Nat) (cT : Nat → ClassId) (sz : Nat) : stOK dC dI cT sz 21 := ⟨_, rfl, fun _ h => h⟩
set_option maxRecDepth 100000 in
theorem st_22 (dC : Nat → ClassId) (dI : Nat → Nat → Nat) (cT : Nat → ClassId) (sz : Nat) : stOK dC dI cT sz 22 := ⟨_, rfl, fun _ h => h⟩
set_option maxRecDepth 100000 in
theorem st_23 (dC : Nat → ClassId) (dI : Nat → Nat → Nat) (cT : Nat → ClassId) (sz : Nat) : stOK dC dI cT sz 23 := ⟨_, rfl, fun _ h => h⟩
set_option maxRecDepth 100000 in
theorem st_24 (dC : Nat → ClassId) (dI : Nat → Nat → Nat) (cT : Nat → ClassId) (sz : Nat) : stOK dC dI cT sz 24 := ⟨_, rfl, fun _ h => h⟩
set_option maxRecDepth 100000 in
theorem st_25 (dC : Nat → ClassId) (dI : Nat → Nat → Nat) (cT : Nat → ClassId) (sz : Nat) : stOK dC dI cT sz 25 := ⟨_, rfl, fun _ h => h⟩
set_option maxRecDepth 100000 in
theorem st_26 (dC : Nat → ClassId) (dI : Nat → Nat → Nat) (cT : Nat → ClassId) (sz : Nat) : stOK dC dI cT sz 26 := ⟨_, rfl, fun _ h => h⟩
set_option maxRecDepth 100000 in
theorem st_27 (dC : Nat → ClassId) (dI : Nat → Nat → Nat) (cT : Nat → ClassId) (sz : Nat) : stOK dC dI cT sz 27 := ⟨_, rfl, fun _ h => h⟩
set_option maxRecDepth 100000 in
theorem st_28 (dC : Nat → ClassId) (dI : Nat → Nat → Nat) (cT : Nat → ClassId) (sz : Nat) : stOK dC dI cT sz 28 := ⟨_, rfl, fun _ h => h⟩
set_option maxRecDepth 100000 in
theorem st_29 (dC : Nat → ClassId) (dI : Nat → Nat → Nat) (cT : Nat → ClassId) (sz : Nat) : stOK dC dI cT sz 29 := ⟨_, rfl, fun _ h => h⟩
set_option maxRecDepth 100000 in
theorem st_30 (dC : Nat → ClassId) (dI : Nat → Nat → Nat) (cT : Nat → ClassId) (sz : Nat) : stOK dC dI cT sz 30 := ⟨_, rfl, fun _ h => h⟩
set_option maxRecDepth 100000 in
theorem st_31 (dC : Nat → ClassId) (dI : Nat → Nat → Nat) (cT : Nat → ClassId) (sz : Nat) : stOK dC dI cT sz 31 := ⟨_, rfl, fun _ h => h⟩
set_option maxRecDepth 100000 in
theorem st_32 (dC : Nat → ClassId) (dI : Nat → Nat → Nat) (cT : Nat → ClassId) (sz : Nat) : stOK dC dI cT sz 32 := ⟨_, rfl, fun _ h => h⟩
set_option maxRecDepth 100000 in
theorem st_33 (dC : Nat → ClassId) (dI : Nat → Nat → Nat) (cT : Nat → ClassId) (sz : Nat) : stOK dC dI cT sz 33 := ⟨_, rfl, fun _ h => h⟩
set_option maxRecDepth 100000 in
theorem st_34 (dC : Nat → ClassId) (dI : Nat → Nat → Nat) (cT : Nat → ClassId) (sz : Nat) : stOK dC dI cT sz 34 := ⟨_, rfl, fun _ h => h⟩
set_option maxRecDepth 100000 in
theorem st_35 (dC : Nat → ClassId) (dI : Nat → Nat → Nat) (cT : Nat → ClassId) (sz : Nat) : stOK dC dI cT sz 35 := ⟨_, rfl, fun _ h => h⟩
set_option maxRecDepth 100000 in
theorem st_40 (dC : Nat → ClassId) (dI : Nat → Nat → Nat) (cT : Nat → ClassId) (sz : Nat) : stOK dC dI cT sz 40 := ⟨_, rfl, fun _ h => h⟩
set_option maxRecDepth 100000 in
theorem st_41 (dC : Nat → ClassId) (dI : Nat → Nat → Nat) (cT : Nat → ClassId) (sz : Nat) : stOK dC dI cT sz 41 := ⟨_, rfl, fun _ h => h⟩
set_option maxRecDepth 100000 in
theorem st_42 (dC : Nat → ClassId) (dI : Nat → Nat → Nat) (cT : Nat → ClassId) (sz : Nat) : stOK dC dI cT sz 42 := ⟨_, rfl, fun _ h => h⟩
set_option maxRecDepth 100000 in
theorem st_43 (dC : Nat → ClassId) (dI : Nat → Nat → Nat) (cT : Nat → ClassId) (sz : Nat) : stOK dC dI cT sz 43 := ⟨_, rfl, fun _ h => h⟩
set_option maxRecDepth 100000 in
theorem st_44 (dC : Nat → ClassId) (dI : Nat → Nat → Nat) (cT : Nat → ClassId) (sz : Nat) : stOK dC dI cT sz 44 := ⟨_, rfl, fun _ h => h⟩
set_option maxRecDepth 100000 in
theorem st_45 (dC : Nat → ClassId) (dI : Nat → Nat → Nat) (cT : Nat → ClassId) (sz : Nat) : stOK dC dI cT sz 45 := ⟨_, rfl, fun _ h => h⟩
set_option maxRecDepth 100000 in
theorem st_46 (dC : Nat → ClassId) (dI : Nat → Nat → Nat) (cT : Nat → ClassId) (sz : Nat) : stOK dC dI cT sz 46 := ⟨_, rfl, fun _ h => h⟩
set_option maxRecDepth 100000 in
theorem st_47 (dC : Nat → ClassId) (dI : Nat → Nat → Nat) (cT : Nat → ClassId) (sz : Nat) : stOK dC dI cT sz 47 := ⟨_, rfl, fun _ h => h⟩
set_option maxRecDepth 100000 in
theorem st_48 (dC : Nat → ClassId) (dI : Nat → Nat → Nat) (cT : Nat → ClassId) (sz : Nat) : stOK dC dI cT sz 48 := ⟨_, rfl, fun _ h => h⟩
set_option maxRecDepth 100000 in
theorem st_49 (dC : Nat → ClassId) (dI : Nat → Nat → Nat) (cT : Nat → ClassId) (sz : Nat) : stOK dC dI cT sz 49 := ⟨_, rfl, fun _ h => h⟩
set_option maxRecDepth 100000 in
theorem st_60 (dC : Nat → ClassId) (dI : Nat → Nat → Nat) (cT : Nat → ClassId) (sz : Nat) : stOK dC dI cT sz 60 := ⟨_, rfl, fun _ h => h⟩
set_option maxRecDepth 100000 in
theorem st_61 (dC : Nat → ClassId) (dI : Nat → Nat → Nat) (cT : Nat → ClassId) (sz : Nat) : stOK dC dI cT sz 61 := ⟨_, rfl, fun _ h => h⟩
set_option maxRecDepth 100000 in
theorem st_62 (dC : Nat → ClassId) (dI : Nat → Nat → Nat) (cT : Nat → ClassId) (sz : Nat) : stOK dC dI cT sz 62 := ⟨_, rfl, fun _ h => h⟩
set_option maxRecDepth 100000 in
theorem st_63 (dC : Nat → ClassId) (dI : Nat → Nat → Nat) (cT : Nat → ClassId) (sz : Nat) : stOK dC dI cT sz 63 := ⟨_, rfl, fun _ h => h⟩
set_option maxRecDepth 100000 in
theorem st_64 (dC : Nat → ClassId) (dI : Nat → Nat → Nat) (cT : Nat → ClassId) (sz : Nat) : stOK dC dI cT sz 64 := ⟨_, rfl, fun _ h => h⟩
set_option maxRecDepth 100000 in
theorem st_65 (dC : Nat → ClassId) (dI : Nat → Nat → Nat) (cT : Nat → ClassId) (sz : Nat) : stOK dC dI cT sz 65 := ⟨_, rfl, fun _ h => h⟩
set_option maxRecDepth 100000 in
theorem st_70 (dC : Nat → ClassId) (dI : Nat → Nat → Nat) (cT : Nat → ClassId) (sz : Nat) : stOK dC dI cT sz 70 := ⟨_, rfl, fun _ h => h⟩
set_option maxRecDepth 100000 in
theorem st_200 (dC : Nat → ClassId) (dI : Nat → Nat → Nat) (cT : Nat → ClassId) (sz : Nat) : stOK dC dI cT sz 200 := ⟨_, rfl, fun _ h => h⟩
set_option maxRecDepth 100000 in
theorem st_201 (dC : Nat → ClassId) (dI : Nat → Nat → Nat) (cT : Nat → ClassId) (sz : Nat) : stOK dC dI cT sz 201 := ⟨_, rfl, fun _ h => h⟩
set_option maxRecDepth 100000 in
theorem st_202 (dC : Nat → ClassId) (dI : Nat → Nat → Nat) (cT : Nat → ClassId) (sz : Nat) : stOK dC dI cT sz 202 := ⟨_, rfl, fun _ h => h⟩
set_option maxRecDepth 100000 in
theorem st_203 (dC : Nat → ClassId) (dI : Nat → Nat → Nat) (cT : Nat → ClassId) (sz : Nat) : stOK dC dI cT sz 203 := ⟨_, rfl, fun _ h => h⟩
set_option maxRecDepth 100000 in
theorem st_204 (dC : Nat → ClassId) (dI : Nat → Nat → Nat) (cT : Nat → ClassId) (sz : Nat) : stOK dC dI cT sz 204 := ⟨_, rfl, fun _ h => h⟩
set_option maxRecDepth 100000 in
theorem st_205 (dC : Nat → ClassId) (dI : Nat → Nat → Nat) (cT : Nat → ClassId) (sz : Nat) : stOK dC dI cT sz 205 := ⟨_, rfl, fun _ h => h⟩
set_option maxRecDepth 100000 in
theorem st_206 (dC : Nat → ClassId) (dI : Nat → Nat → Nat) (cT : Nat → ClassId) (sz : Nat) : stOK dC dI cT sz 206 := ⟨_, rfl, fun _ h => h⟩
set_option maxRecDepth 100000 in
theorem st_207 (dC : Nat → ClassId) (dI : Nat → Nat → Nat) (cT : Nat → ClassId) (sz : Nat) : stOK dC dI cT sz 207 := ⟨_, rfl, fun _ h => h⟩
set_option maxRecDepth 100000 in
theorem st_208 (dC : Nat → ClassId) (dI : Nat → Nat → Nat) (cT : Nat → ClassId) (sz : Nat) : stOK dC dI cT sz 208 := ⟨_, rfl, fun _ h => h⟩
set_option maxRecDepth 100000 in
theorem st_209 (dC : Nat → ClassId) (dI : Nat → Nat → Nat) (cT : Nat → ClassId) (sz : Nat) : stOK dC dI cT sz 209 := ⟨_, rfl, fun _ h => h⟩
set_option maxRecDepth 100000 in
theorem st_210 (dC : Nat → ClassId) (dI : Nat → Nat → Nat) (cT : Nat → ClassId) (sz : Nat) : stOK dC dI cT sz 210 := ⟨_, rfl, fun _ h => h⟩
set_option maxRecDepth 100000 in
theorem st_211 (dC : Nat → ClassId) (dI : Nat → Nat → Nat) (cT : Nat → ClassId) (sz : Nat) : stOK dC dI cT sz 211 := ⟨_, rfl, fun _ h => h⟩
set_option maxRecDepth 100000 in
theorem st_212 (dC : Nat → ClassId) (dI : Nat → Nat → Nat) (cT : Nat → ClassId) (sz : Nat) : stOK dC dI cT sz 212 := ⟨_, rfl, fun _ h => h⟩
set_option maxRecDepth 100000 in
theorem st_213 (dC : Nat → ClassId) (dI : Nat → Nat → Nat) (cT : Nat → ClassId) (sz : Nat) : stOK dC dI cT sz 213 := ⟨_, rfl, fun _ h => h⟩
set_option maxRecDepth 100000 in
theorem st_214 (dC : Nat → ClassId) (dI : Nat → Nat → Nat) (cT : Nat → ClassId) (sz : Nat) : stOK dC dI cT sz 214 := ⟨_, rfl, fun _ h => h⟩
set_option maxRecDepth 100000 in
theorem st_215 (dC : Nat → ClassId) (dI : Nat → Nat → Nat) (cT : Nat → ClassId) (sz : Nat) : stOK dC dI cT sz 215 := ⟨_, rfl, fun _ h => h⟩
set_option maxRecDepth 100000 in
theorem st_216 (dC : Nat → ClassId) (dI : Nat → Nat → Nat) (cT : Nat → ClassId) (sz : Nat) : stOK dC dI cT sz 216 := ⟨_, rfl, fun _ h => h⟩
set_option maxRecDepth 100000 in
theorem st_217 (dC : Nat → ClassId) (dI : Nat → Nat → Nat) (cT : Nat → ClassId) (sz : Nat) : stOK dC dI cT sz 217 := ⟨_, rfl, fun _ h => h⟩
set_option maxRecDepth 100000 in
theorem st_218 (dC : Nat → ClassId) (dI : Nat → Nat → Nat) (cT : Nat → ClassId) (sz : Nat) : stOK dC dI cT sz 218 := ⟨_, rfl, fun _ h => h⟩
set_option maxRecDepth 100000 in
theorem st_219 (dC : Nat → ClassId) (dI : Nat → Nat → Nat) (cT : Nat → ClassId) (sz : Nat) : stOK dC dI cT sz 219 := ⟨_, rfl, fun _ h => h⟩
set_option maxRecDepth 100000 in
theorem st_220 (dC : Nat → ClassId) (dI : Nat → Nat → Nat) (cT : Nat → ClassId) (sz : Nat) : stOK dC dI cT sz 220 := ⟨_, rfl, fun _ h => h⟩
set_option maxRecDepth 100000 in
theorem st_221 (dC : Nat → ClassId) (dI : Nat → Nat → Nat) (cT : Nat → ClassId) (sz : Nat) : stOK dC dI cT sz 221 := ⟨_, rfl, fun _ h => h⟩
set_option maxRecDepth 100000 in
theorem st_222 (dC : Nat → ClassId) (dI : Nat → Nat → Nat) (cT : Nat → ClassId) (sz : Nat) : stOK dC dI cT sz 222 := ⟨_, rfl, fun _ h => h⟩
set_option maxRecDepth 100000 in
theorem st_223 (dC : Nat → ClassId) (dI : Nat → Nat → Nat) (cT : Nat → ClassId) (sz : Nat) : stOK dC dI cT sz 223 := ⟨_, rfl, fun _ h => h⟩
set_option maxRecDepth 100000 in
theorem st_224 (dC : Nat → ClassId) (dI : Nat → Nat → Nat) (cT : Nat → ClassId) (sz : Nat) : stOK dC dI cT sz 224 := ⟨_, rfl, fun _ h => h⟩
set_option maxRecDepth 100000 in
theorem st_225 (dC : Nat → ClassId) (dI : Nat → Nat → Nat) (cT : Nat → ClassId) (sz : Nat) : stOK dC dI cT sz 225 := ⟨_, rfl, fun _ h => h⟩
set_option maxRecDepth 100000 in
theorem st_226 (dC : Nat → ClassId) (dI : Nat → Nat → Nat) (cT : Nat → ClassId) (sz : Nat) : stOK dC dI cT sz 226 := ⟨_, rfl, fun _ h => h⟩
set_option maxRecDepth 100000 in
theorem st_227 (dC : Nat → ClassId) (dI : Nat → Nat → Nat) (cT : Nat → ClassId) (sz : Nat) : stOK dC dI cT sz 227 := ⟨_, rfl, fun _ h => h⟩
set_option maxRecDepth 100000 in
theorem st_228 (dC : Nat → ClassId) (dI : Nat → Nat → Nat) (cT : Nat → ClassId) (sz : Nat) : stOK dC dI cT sz 228 := ⟨_, rfl, fun _ h => h⟩
set_option maxRecDepth 100000 in
theorem st_229 (dC : Nat → ClassId) (dI : Nat → Nat → Nat) (cT : Nat → ClassId) (sz : Nat) : stOK dC dI cT sz 229 := ⟨_, rfl, fun _ h => h⟩
set_option maxRecDepth 100000 in
theorem st_230 (dC : Nat → ClassId) (dI : Nat → Nat → Nat) (cT : Nat → ClassId) (sz : Nat) : stOK dC dI cT sz 230 := ⟨_, rfl, fun _ h => h⟩
set_option maxRecDepth 100000 in
theorem st_231 (dC : Nat → ClassId) (dI : Nat → Nat → Nat) (cT : Nat → ClassId) (sz : Nat) : stOK dC dI cT sz 231 := ⟨_, rfl, fun _ h => h⟩
set_option maxRecDepth 100000 in
theorem st_232 (dC : Nat → ClassId) (dI : Nat → Nat → Nat) (cT : Nat → ClassId) (sz : Nat) : stOK dC dI cT sz 232 := ⟨_, rfl, fun _ h => h⟩
set_option maxRecDepth 100000 in
theorem st_233 (dC : Nat → ClassId) (dI : Nat → Nat → Nat) (cT : Nat → ClassId) (sz : Nat) : stOK dC dI cT sz 233 := ⟨_, rfl, fun _ h => h⟩
set_option maxRecDepth 100000 in
theorem st_234 (dC : Nat → ClassId) (dI : Nat → Nat → Nat) (cT : Nat → ClassId) (sz : Nat) : stOK dC dI cT sz 234 := ⟨_, rfl, fun _ h => h⟩
set_option maxRecDepth 100000 in
theorem st_235 (dC : Nat → ClassId) (dI : Nat → Nat → Nat) (cT : Nat → ClassId) (sz : Nat) : stOK dC dI cT sz 235 := ⟨_, rfl, fun _ h => h⟩
set_option maxRecDepth 100000 in
theorem st_236 (dC : Nat → ClassId) (dI : Nat → Nat → Nat) (cT : Nat → ClassId) (sz : Nat) : stOK dC dI cT sz 236 := ⟨_, rfl, fun _ h => h⟩
set_option maxRecDepth 100000 in
theorem st_237 (dC : Nat → ClassId) (dI : Nat → Nat → Nat) (cT : Nat → ClassId) (sz : Nat) : stOK dC dI cT sz 237 := ⟨_, rfl, fun _ h => h⟩
set_option maxRecDepth 100000 in
theorem st_238 (dC : Nat → ClassId) (dI : Nat → Nat → Nat) (cT : Nat → ClassId) (sz : Nat) : stOK dC dI cT sz 238 := ⟨_, rfl, fun _ h => h⟩
set_option maxRecDepth 100000 in
theorem st_239 (dC : Nat → ClassId) (dI : Nat → Nat → Nat) (cT : Nat → ClassId) (sz : Nat) : stOK dC dI cT sz 239 := ⟨_, rfl, fun _ h => h⟩
set_option maxRecDepth 100000 in
theorem st_240 (dC : Nat → ClassId) (dI : Nat → Nat → Nat) (cT : Nat → ClassId) (sz : Nat) : stOK dC dI cT sz 240 := ⟨_, rfl, fun _ h => h⟩
set_option maxRecDepth 100000 in
theorem st_241 (dC : Nat → ClassId) (dI : Nat → Nat → Nat) (cT : Nat → ClassId) (sz : Nat) : stOK dC dI cT sz 241 := ⟨_, rfl, fun _ h => h⟩
set_option maxRecDepth 100000 in
theorem st_242 (dC : Nat → ClassId) (dI : Nat → Nat → Nat) (cT : Nat → ClassId) (sz : Nat) : stOK dC dI cT sz 242 := ⟨_, rfl, fun _ h => h⟩
set_option maxRecDepth 100000 in
theorem st_243 (dC : Nat → ClassId) (dI : Nat → Nat → Nat) (cT : Nat → ClassId) (sz : Nat) : stOK dC dI cT sz 243 := ⟨_, rfl, fun _ h => h⟩
set_option maxRecDepth 100000 in
theorem st_244 (dC : Nat → ClassId) (dI : Nat → Nat → Nat) (cT : Nat → ClassId) (sz : Nat) : stOK dC dI cT sz 244 := ⟨_, rfl, fun _ h => h⟩
set_option maxRecDepth 100000 in
theorem st_245 (dC : Nat → ClassId) (dI : Nat → Nat → Nat) (cT : Nat → ClassId) (sz : Nat) : stOK dC dI cT sz 245 := ⟨_, rfl, fun _ h => h⟩
set_option maxRecDepth 100000 in
theorem st_246 (dC : Nat → ClassId) (dI : Nat → Nat → Nat) (cT : Nat → ClassId) (sz : Nat) : stOK dC dI cT sz 246 := ⟨_, rfl, fun _ h => h⟩
set_option maxRecDepth 100000 in
theorem st_247 (dC : Nat → ClassId) (dI : Nat → Nat → Nat) (cT : Nat → ClassId) (sz : Nat) : stOK dC dI cT sz 247 := ⟨_, rfl, fun _ h => h⟩
set_option maxRecDepth 100000 in
theorem st_248 (dC : Nat → ClassId) (dI : Nat → Nat → Nat) (cT : Nat → ClassId) (sz : Nat) : stOK dC dI cT sz 248 := ⟨_, rfl, fun _ h => h⟩
set_option maxRecDepth 100000 in
theorem st_249 (dC : Nat → ClassId) (dI : Nat → Nat → Nat) (cT : Nat → ClassId) (sz : Nat) : stOK dC dI cT sz 249 := ⟨_, rfl, fun _ h => h⟩
set_option maxRecDepth 100000 in
theorem st_250 (dC : Nat → ClassId) (dI : Nat → Nat → Nat) (cT : Nat → ClassId) (sz : Nat) : stOK dC dI cT sz 250 := ⟨_, rfl, fun _ h => h⟩
set_option maxRecDepth 100000 in
theorem st_251 (dC : Nat → ClassId) (dI : Nat → Nat → Nat) (cT : Nat → ClassId) (sz : Nat) : stOK dC dI cT sz 251 := ⟨_, rfl, fun _ h => h⟩
set_option maxRecDepth 100000 in
theorem st_252 (dC : Nat → ClassId) (dI : Nat → Nat → Nat) (cT : Nat → ClassId) (sz : Nat) : stOK dC dI cT sz 252 := ⟨_, rfl, fun _ h => h⟩
set_option maxRecDepth 100000 in
theorem st_253 (dC : Nat → ClassId) (dI : Nat → Nat → Nat) (cT : Nat → ClassId) (sz : Nat) : stOK dC dI cT sz 253 := ⟨_, rfl, fun _ h => h⟩
set_option maxRecDepth 100000 in
theorem st_254 (dC : Nat → ClassId) (dI : Nat → Nat → Nat) (cT : Nat → ClassId) (sz : Nat) : stOK dC dI cT sz 254 := ⟨_, rfl, fun _ h => h⟩
set_option maxRecDepth 100000 in
theorem st_255 (dC : Nat → ClassId) (dI : Nat → Nat → Nat) (cT : Nat → ClassId) (sz : Nat) : stOK dC dI cT sz 255 := ⟨_, rfl, fun _ h => h⟩
set_option maxRecDepth 100000 in
theorem st_256 (dC : Nat → ClassId) (dI : Nat → Nat → Nat) (cT : Nat → ClassId) (sz : Nat) : stOK dC dI cT sz 256 := ⟨_, rfl, fun _ h => h⟩
set_option maxRecDepth 100000 in
theorem st_257 (dC : Nat → ClassId) (dI : Nat → Nat → Nat) (cT : Nat → ClassId) (sz : Nat) : stOK dC dI cT sz 257 := ⟨_, rfl, fun _ h => h⟩
set_option maxRecDepth 100000 in
theorem st_258 (dC : Nat → ClassId) (dI : Nat → Nat → Nat) (cT : Nat → ClassId) (sz : Nat) : stOK dC dI cT sz 258 := ⟨_, rfl, fun _ h => h⟩
set_option maxRecDepth 100000 in
theorem st_259 (dC : Nat → ClassId) (dI : Nat → Nat → Nat) (cT : Nat → ClassId) (sz : Nat) : stOK dC dI cT sz 259 := ⟨_, rfl, fun _ h => h⟩
set_option maxRecDepth 100000 in
theorem st_260 (dC : Nat → ClassId) (dI : Nat → Nat → Nat) (cT : Nat → ClassId) (sz : Nat) : stOK dC dI cT sz 260 := ⟨_, rfl, fun _ h => h⟩
set_option maxRecDepth 100000 in
theorem st_261 (dC : Nat → ClassId) (dI : Nat → Nat → Nat) (cT : Nat → ClassId) (sz : Nat) : stOK dC dI cT sz 261 := ⟨_, rfl, fun _ h => h⟩
set_option maxRecDepth 100000 in
theorem st_262 (dC : Nat → ClassId) (dI : Nat → Nat → Nat) (cT : Nat → ClassId) (sz : Nat) : stOK dC dI cT sz 262 := ⟨_, rfl, fun _ h => h⟩
set_option maxRecDepth 100000 in
theorem st_263 (dC : Nat → ClassId) (dI : Nat → Nat → Nat) (cT : Nat → ClassId) (sz : Nat) : stOK dC dI cT sz 263 := ⟨_, rfl, fun _ h => h⟩
set_option maxRecDepth 100000 in
theorem st_264 (dC : Nat → ClassId) (dI : Nat → Nat → Nat) (cT : Nat → ClassId) (sz : Nat) : stOK dC dI cT sz 264 := ⟨_, rfl, fun _ h => h⟩
set_option maxRecDepth 100000 in
theorem st_265 (dC : Nat → ClassId) (dI : Nat → Nat → Nat) (cT : Nat → ClassId) (sz : Nat) : stOK dC dI cT sz 265 := ⟨_, rfl, fun _ h => h⟩
set_option maxRecDepth 100000 in
theorem st_266 (dC : Nat → ClassId) (dI : Nat → Nat → Nat) (cT : Nat → ClassId) (sz : Nat) : stOK dC dI cT sz 266 := ⟨_, rfl, fun _ h => h⟩
set_option maxRecDepth 100000 in
theorem st_267 (dC : Nat → ClassId) (dI : Nat → Nat → Nat) (cT : Nat → ClassId) (sz : Nat) : stOK dC dI cT sz 267 := ⟨_, rfl, fun _ h => h⟩
set_option maxRecDepth 100000 in
theorem st_268 (dC : Nat → ClassId) (dI : Nat → Nat → Nat) (cT : Nat → ClassId) (sz : Nat) : stOK dC dI cT sz 268 := ⟨_, rfl, fun _ h => h⟩
set_option maxRecDepth 100000 in
theorem st_269 (dC : Nat → ClassId) (dI : Nat → Nat → Nat) (cT : Nat → ClassId) (sz : Nat) : stOK dC dI cT sz 269 := ⟨_, rfl, fun _ h => h⟩
set_option maxRecDepth 100000 in
theorem st_270 (dC : Nat → ClassId) (dI : Nat → Nat → Nat) (cT : Nat → ClassId) (sz : Nat) : stOK dC dI cT sz 270 := ⟨_, rfl, fun _ h => h⟩
set_option maxRecDepth 100000 in
theorem st_271 (dC : Nat → ClassId) (dI : Nat → Nat → Nat) (cT : Nat → ClassId) (sz : Nat) : stOK dC dI cT sz 271 := ⟨_, rfl, fun _ h => h⟩
set_option maxRecDepth 100000 in
theorem st_272 (dC : Nat → ClassId) (dI : Nat → Nat → Nat) (cT : Nat → ClassId) (sz : Nat) : stOK dC dI cT sz 272 := ⟨_, rfl, fun _ h => h⟩
set_option maxRecDepth 100000 in
theorem st_273 (dC : Nat → ClassId) (dI : Nat → Nat → Nat) (cT : Nat → ClassId) (sz : Nat) : stOK dC dI cT sz 273 := ⟨_, rfl, fun _ h => h⟩
set_option maxRecDepth 100000 in
theorem st_274 (dC : Nat → ClassId) (dI : Nat → Nat → Nat) (cT : Nat → ClassId) (sz : Nat) : stOK dC dI cT sz 274 := ⟨_, rfl, fun _ h => h⟩
set_option maxRecDepth 100000 in
theorem st_275 (dC : Nat → ClassId) (dI : Nat → Nat → Nat) (cT : Nat → ClassId) (sz : Nat) : stOK dC dI cT sz 275 := ⟨_, rfl, fun _ h => h⟩
set_option maxRecDepth 100000 in
theorem st_276 (dC : Nat → ClassId) (dI : Nat → Nat → Nat) (cT : Nat → ClassId) (sz : Nat) : stOK dC dI cT sz 276 := ⟨_, rfl, fun _ h => h⟩
set_option maxRecDepth 100000 in
theorem st_277 (dC : Nat → ClassId) (dI : Nat → Nat → Nat) (cT : Nat → ClassId) (sz : Nat) : stOK dC dI cT sz 277 := ⟨_, rfl, fun _ h => h⟩
set_option maxRecDepth 100000 in
theorem st_278 (dC : Nat → ClassId) (dI : Nat → Nat → Nat) (cT : Nat → ClassId) (sz : Nat) : stOK dC dI cT sz 278 := ⟨_, rfl, fun _ h => h⟩
set_option maxRecDepth 100000 in
theorem st_279 (dC : Nat → ClassId) (dI : Nat → Nat → Nat) (cT : Nat → ClassId) (sz : Nat) : stOK dC dI cT sz 279 := ⟨_, rfl, fun _ h => h⟩
set_option maxRecDepth 100000 in
theorem st_280 (dC : Nat → ClassId) (dI : Nat → Nat → Nat) (cT : Nat → ClassId) (sz : Nat) : stOK dC dI cT sz 280 := ⟨_, rfl, fun _ h => h⟩
set_option maxRecDepth 100000 in
theorem st_281 (dC : Nat → ClassId) (dI : Nat → Nat → Nat) (cT : Nat → ClassId) (sz : Nat) : stOK dC dI cT sz 281 := ⟨_, rfl, fun _ h => h⟩
set_option maxRecDepth 100000 in
theorem st_282 (dC : Nat → ClassId) (dI : Nat → Nat → Nat) (cT : Nat → ClassId) (sz : Nat) : stOK dC dI cT sz 282 := ⟨_, rfl, fun _ h => h⟩
set_option maxRecDepth 100000 in
theorem st_283 (dC : Nat → ClassId) (dI : Nat → Nat → Nat) (cT : Nat → ClassId) (sz : Nat) : stOK dC dI cT sz 283 := ⟨_, rfl, fun _ h => h⟩
set_option maxRecDepth 100000 in
theorem st_284 (dC : Nat → ClassId) (dI : Nat → Nat → Nat) (cT : Nat → ClassId) (sz : Nat) : stOK dC dI cT sz 284 := ⟨_, rfl, fun _ h => h⟩
set_option maxRecDepth 100000 in
theorem st_285 (dC : Nat → ClassId) (dI : Nat → Nat → Nat) (cT : Nat → ClassId) (sz : Nat) : stOK dC dI cT sz 285 := ⟨_, rfl, fun _ h => h⟩
set_option maxRecDepth 100000 in
theorem st_286 (dC : Nat → ClassId) (dI : Nat → Nat → Nat) (cT : Nat → ClassId) (sz : Nat) : stOK dC dI cT sz 286 := ⟨_, rfl, fun _ h => h⟩
set_option maxRecDepth 100000 in
theorem st_287 (dC : Nat → ClassId) (dI : Nat → Nat → Nat) (cT : Nat → ClassId) (sz : Nat) : stOK dC dI cT sz 287 := ⟨_, rfl, fun _ h => h⟩
set_option maxRecDepth 100000 in
theorem st_288 (dC : Nat → ClassId) (dI : Nat → Nat → Nat) (cT : Nat → ClassId) (sz : Nat) : stOK dC dI cT sz 288 := ⟨_, rfl, fun _ h => h⟩
set_option maxRecDepth 100000 in
theorem st_289 (dC : Nat → ClassId) (dI : Nat → Nat → Nat) (cT : Nat → ClassId) (sz : Nat) : stOK dC dI cT sz 289 := ⟨_, rfl, fun _ h => h⟩
set_option maxRecDepth 100000 in
theorem st_290 (dC : Nat → ClassId) (dI : Nat → Nat → Nat) (cT : Nat → ClassId) (sz : Nat) : stOK dC dI cT sz 290 := ⟨_, rfl, fun _ h => h⟩
set_option maxRecDepth 100000 in
theorem st_291 (dC : Nat → ClassId) (dI : Nat → Nat → Nat) (cT : Nat → ClassId) (sz : Nat) : stOK dC dI cT sz 291 := ⟨_, rfl, fun _ h => h⟩
set_option maxRecDepth 100000 in
theorem st_292 (dC : Nat → ClassId) (dI : Nat → Nat → Nat) (cT : Nat → ClassId) (sz : Nat) : stOK dC dI cT sz 292 := ⟨_, rfl, fun _ h => h⟩
set_option maxRecDepth 100000 in
theorem st_293 (dC : Nat → ClassId) (dI : Nat → Nat → Nat) (cT : Nat → ClassId) (sz : Nat) : stOK dC dI cT sz 293 := ⟨_, rfl, fun _ h => h⟩
set_option maxRecDepth 100000 in
theorem st_294 (dC : Nat → ClassId) (dI : Nat → Nat → Nat) (cT : Nat → ClassId) (sz : Nat) : stOK dC dI cT sz 294 := ⟨_, rfl, fun _ h => h⟩
set_option maxRecDepth 100000 in
theorem st_295 (dC : Nat → ClassId) (dI : Nat → Nat → Nat) (cT : Nat → ClassId) (sz : Nat) : stOK dC dI cT sz 295 := ⟨_, rfl, fun _ h => h⟩
set_option maxRecDepth 100000 in
theorem st_296 (dC : Nat → ClassId) (dI : Nat → Nat → Nat) (cT : Nat → ClassId) (sz : Nat) : stOK dC dI cT sz 296 := ⟨_, rfl, fun _ h => h⟩
set_option maxRecDepth 100000 in
theorem st_297 (dC : Nat → ClassId) (dI : Nat → Nat → Nat) (cT : Nat → ClassId) (sz : Nat) : stOK dC dI cT sz 297 := ⟨_, rfl, fun _ h => h⟩
set_option maxRecDepth 100000 in
theorem st_298 (dC : Nat → ClassId) (dI : Nat → Nat → Nat) (cT : Nat → ClassId) (sz : Nat) : stOK dC dI cT sz 298 := ⟨_, rfl, fun _ h => h⟩
set_option maxRecDepth 100000 in
theorem st_299 (dC : Nat → ClassId) (dI : Nat → Nat → Nat) (cT : Nat → ClassId) (sz : Nat) : stOK dC dI cT sz 299 := ⟨_, rfl, fun _ h => h⟩
set_option maxRecDepth 100000 in
theorem q_ids_eq : q_ids false = [0, 1, 2, 3, 4, 5, 6, 7, 8, 9, 10, 11, 12, 13, 14, 15, 20, 21, 22, 23, 24, 25, 26, 27, 28, 29, 30, 31, 32, 33, 34, 35, 40, 41, 42, 43, 44, 45, 46, 47, 48, 49, 60, 61, 62, 63, 64, 65, 70, 200, 201, 202, 203, 204, 205, 206, 207, 208, 209, 210, 211, 212, 213, 214, 215, 216, 217, 218, 219, 220, 221, 222, 223, 224, 225, 226, 227, 228, 229, 230, 231, 232, 233, 234, 235, 236, 237, 238, 239, 240, 241, 242, 243, 244, 245, 246, 247, 248, 249, 250, 251, 252, 253, 254, 255, 256, 257, 258, 259, 260, 261, 262, 263, 264, 265, 266, 267, 268, 269, 270, 271, 272, 273, 274, 275, 276, 277, 278, 279, 280, 281, 282, 283, 284, 285, 286, 287, 288, 289, 290, 291, 292, 293, 294, 295, 296, 297, 298, 299] := by decide +kernel
set_option maxRecDepth 100000 in
theorem st_all (dC : Nat → ClassId) (dI : Nat → Nat → Nat) (cT : Nat → ClassId) (sz : Nat) : ∀ k ∈ q_ids false, stOK dC dI cT sz k := by
  rw [q_ids_eq]
  exact List.forall_mem_cons.mpr ⟨st_0 dC dI cT sz, List.forall_mem_cons.mpr ⟨st_1 dC dI cT sz, List.forall_mem_cons.mpr ⟨st_2 dC dI cT sz, List.forall_mem_cons.mpr ⟨st_3 dC dI cT sz, List.forall_mem_cons.mpr ⟨st_4 dC dI cT sz, List.forall_mem_cons.mpr ⟨st_5 dC dI cT sz, List.forall_mem_cons.mpr ⟨st_6 dC dI cT sz, List.forall_mem_cons.mpr ⟨st_7 dC dI cT sz, List.forall_mem_cons.mpr ⟨st_8 dC dI cT sz, List.forall_mem_cons.mpr ⟨st_9 dC dI cT sz, List.forall_mem_cons.mpr ⟨st_10 dC dI cT sz, List.forall_mem_cons.mpr ⟨st_11 dC dI cT sz, List.forall_mem_cons.mpr ⟨st_12 dC dI cT sz, List.forall_mem_cons.mpr ⟨st_13 dC dI cT sz, List.forall_mem_cons.mpr ⟨st_14 dC dI cT sz, List.forall_mem_cons.mpr ⟨st_15 dC dI cT sz, List.forall_mem_cons.mpr ⟨st_20 dC dI cT sz, List.forall_mem_cons.mpr ⟨st_21 dC dI cT sz, List.forall_mem_cons.mpr ⟨st_22 dC dI cT sz, List.forall_mem_cons.mpr ⟨st_23 dC dI cT sz, List.forall_mem_cons.mpr ⟨st_24 dC dI cT sz, List.forall_mem_cons.mpr ⟨st_25 dC dI cT sz, List.forall_mem_cons.mpr ⟨st_26 dC dI cT sz, List.forall_mem_cons.mpr ⟨st_27 dC dI cT sz, List.forall_mem_cons.mpr ⟨st_28 dC dI cT sz, List.forall_mem_cons.mpr ⟨st_29 dC dI cT sz, List.forall_mem_cons.mpr ⟨st_30 dC dI cT sz, List.forall_mem_cons.mpr ⟨st_31 dC dI cT sz, List.forall_mem_cons.mpr ⟨st_32 dC dI cT sz, List.forall_mem_cons.mpr ⟨st_33 dC dI cT sz, List.forall_mem_cons.mpr ⟨st_34 dC dI cT sz, List.forall_mem_cons.mpr ⟨st_35 dC dI cT sz, List.forall_mem_cons.mpr ⟨st_40 dC dI cT sz, List.forall_mem_cons.mpr ⟨st_41 dC dI cT sz, List.forall_mem_cons.mpr ⟨st_42 dC dI cT sz, List.forall_mem_cons.mpr ⟨st_43 dC dI cT sz, List.forall_mem_cons.mpr ⟨st_44 dC dI cT sz, List.forall_mem_cons.mpr ⟨st_45 dC dI cT sz, List.forall_mem_cons.mpr ⟨st_46 dC dI cT sz, List.forall_mem_cons.mpr ⟨st_47 dC dI cT sz, List.forall_mem_cons.mpr ⟨st_48 dC dI cT sz, List.forall_mem_cons.mpr ⟨st_49 dC dI cT sz, List.forall_mem_cons.mpr ⟨st_60 dC dI cT sz, List.forall_mem_cons.mpr ⟨st_61 dC dI cT sz, List.forall_mem_cons.mpr ⟨st_62 dC dI cT sz, List.forall_mem_cons.mpr ⟨st_63 dC dI cT sz, List.forall_mem_cons.mpr ⟨st_64 dC dI cT sz, List.forall_mem_cons.mpr ⟨st_65 dC dI cT sz, List.forall_mem_cons.mpr ⟨st_70 dC dI cT sz, List.forall_mem_cons.mpr ⟨st_200 dC dI cT sz, List.forall_mem_cons.mpr ⟨st_201 dC dI cT sz, List.forall_mem_cons.mpr ⟨st_202 dC dI cT sz, List.forall_mem_cons.mpr ⟨st_203 dC dI cT sz, List.forall_mem_cons.mpr ⟨st_204 dC dI cT sz, List.forall_mem_cons.mpr ⟨st_205 dC dI cT sz, List.forall_mem_cons.mpr ⟨st_206 dC dI cT sz, List.forall_mem_cons.mpr ⟨st_207 dC dI cT sz, List.forall_mem_cons.mpr ⟨st_208 dC dI cT sz, List.forall_mem_cons.mpr ⟨st_209 dC dI cT sz, List.forall_mem_cons.mpr ⟨st_210 dC dI cT sz, List.forall_mem_cons.mpr ⟨st_211 dC dI cT sz, List.forall_mem_cons.mpr ⟨st_212 dC dI cT sz, List.forall_mem_cons.mpr ⟨st_213 dC dI cT sz, List.forall_mem_cons.mpr ⟨st_214 dC dI cT sz, List.forall_mem_cons.mpr ⟨st_215 dC dI cT sz, List.forall_mem_cons.mpr ⟨st_216 dC dI cT sz, List.forall_mem_cons.mpr ⟨st_217 dC dI cT sz, List.forall_mem_cons.mpr ⟨st_218 dC dI cT sz, List.forall_mem_cons.mpr ⟨st_219 dC dI cT sz, List.forall_mem_cons.mpr ⟨st_220 dC dI cT sz, List.forall_mem_cons.mpr ⟨st_221 dC dI cT sz, List.forall_mem_cons.mpr ⟨st_222 dC dI cT sz, List.forall_mem_cons.mpr ⟨st_223 dC dI cT sz, List.forall_mem_cons.mpr ⟨st_224 dC dI cT sz, List.forall_mem_cons.mpr ⟨st_225 dC dI cT sz, List.forall_mem_cons.mpr ⟨st_226 dC dI cT sz, List.forall_mem_cons.mpr ⟨st_227 dC dI cT sz, List.forall_mem_cons.mpr ⟨st_228 dC dI cT sz, List.forall_mem_cons.mpr ⟨st_229 dC dI cT sz, List.forall_mem_cons.mpr ⟨st_230 dC dI cT sz, List.forall_mem_cons.mpr ⟨st_231 dC dI cT sz, List.forall_mem_cons.mpr ⟨st_232 dC dI cT sz, List.forall_mem_cons.mpr ⟨st_233 dC dI cT sz, List.forall_mem_cons.mpr ⟨st_234 dC dI cT sz, List.forall_mem_cons.mpr ⟨st_235 dC dI cT sz, List.forall_mem_cons.mpr ⟨st_236 dC dI cT sz, List.forall_mem_cons.mpr ⟨st_237 dC dI cT sz, List.forall_mem_cons.mpr ⟨st_238 dC dI cT sz, List.forall_mem_cons.mpr ⟨st_239 dC dI cT sz, List.forall_mem_cons.mpr ⟨st_240 dC dI cT sz, List.forall_mem_cons.mpr ⟨st_241 dC dI cT sz, List.forall_mem_cons.mpr ⟨st_242 dC dI cT sz, List.forall_mem_cons.mpr ⟨st_243 dC dI cT sz, List.forall_mem_cons.mpr ⟨st_244 dC dI cT sz, List.forall_mem_cons.mpr ⟨st_245 dC dI cT sz, List.forall_mem_cons.mpr ⟨st_246 dC dI cT sz, List.forall_mem_cons.mpr ⟨st_247 dC dI cT sz, List.forall_mem_cons.mpr ⟨st_248 dC dI cT sz, List.forall_mem_cons.mpr ⟨st_249 dC dI cT sz, List.forall_mem_cons.mpr ⟨st_250 dC dI cT sz, List.forall_mem_cons.mpr ⟨st_251 dC dI cT sz, List.forall_mem_cons.mpr ⟨st_252 dC dI cT sz, List.forall_mem_cons.mpr ⟨st_253 dC dI cT sz, List.forall_mem_cons.mpr ⟨st_254 dC dI cT sz, List.forall_mem_cons.mpr ⟨st_255 dC dI cT sz, List.forall_mem_cons.mpr ⟨st_256 dC dI cT sz, List.forall_mem_cons.mpr ⟨st_257 dC dI cT sz, List.forall_mem_cons.mpr ⟨st_258 dC dI cT sz, List.forall_mem_cons.mpr ⟨st_259 dC dI cT sz, List.forall_mem_cons.mpr ⟨st_260 dC dI cT sz, List.forall_mem_cons.mpr ⟨st_261 dC dI cT sz, List.forall_mem_cons.mpr ⟨st_262 dC dI cT sz, List.forall_mem_cons.mpr ⟨st_263 dC dI cT sz, List.forall_mem_cons.mpr ⟨st_264 dC dI cT sz, List.forall_mem_cons.mpr ⟨st_265 dC dI cT sz, List.forall_mem_cons.mpr ⟨st_266 dC dI cT sz, List.forall_mem_cons.mpr ⟨st_267 dC dI cT sz, List.forall_mem_cons.mpr ⟨st_268 dC dI cT sz, List.forall_mem_cons.mpr ⟨st_269 dC dI cT sz, List.forall_mem_cons.mpr ⟨st_270 dC dI cT sz, List.forall_mem_cons.mpr ⟨st_271 dC dI cT sz, List.forall_mem_cons.mpr ⟨st_272 dC dI cT sz, List.forall_mem_cons.mpr ⟨st_273 dC dI cT sz, List.forall_mem_cons.mpr ⟨st_274 dC dI cT sz, List.forall_mem_cons.mpr ⟨st_275 dC dI cT sz, List.forall_mem_cons.mpr ⟨st_276 dC dI cT sz, List.forall_mem_cons.mpr ⟨st_277 dC dI cT sz, List.forall_mem_cons.mpr ⟨st_278 dC dI cT sz, List.forall_mem_cons.mpr ⟨st_279 dC dI cT sz, List.forall_mem_cons.mpr ⟨st_280 dC dI cT sz, List.forall_mem_cons.mpr ⟨st_281 dC dI cT sz, List.forall_mem_cons.mpr ⟨st_282 dC dI cT sz, List.forall_mem_cons.mpr ⟨st_283 dC dI cT sz, List.forall_mem_cons.mpr ⟨st_284 dC dI cT sz, List.forall_mem_cons.mpr ⟨st_285 dC dI cT sz, List.forall_mem_cons.mpr ⟨st_286 dC dI cT sz, List.forall_mem_cons.mpr ⟨st_287 dC dI cT sz, List.forall_mem_cons.mpr ⟨st_288 dC dI cT sz, List.forall_mem_cons.mpr ⟨st_289 dC dI cT sz, List.forall_mem_cons.mpr ⟨st_290 dC dI cT sz, List.forall_mem_cons.mpr ⟨st_291 dC dI cT sz, List.forall_mem_cons.mpr ⟨st_292 dC dI cT sz, List.forall_mem_cons.mpr ⟨st_293 dC dI cT sz, List.forall_mem_cons.mpr ⟨st_294 dC dI cT sz, List.forall_mem_cons.mpr ⟨st_295 dC dI cT sz, List.forall_mem_cons.mpr ⟨st_296 dC dI cT sz, List.forall_mem_cons.mpr ⟨st_297 dC dI cT sz, List.forall_mem_cons.mpr ⟨st_298 dC dI cT sz, List.forall_mem_cons.mpr ⟨st_299 dC dI cT sz, fun _ h => absurd h List.not_mem_nil⟩⟩⟩⟩⟩⟩⟩⟩⟩⟩⟩⟩⟩⟩⟩⟩⟩⟩⟩⟩⟩⟩⟩⟩⟩⟩⟩⟩⟩⟩⟩⟩⟩⟩⟩⟩⟩⟩⟩⟩⟩⟩⟩⟩⟩⟩⟩⟩⟩⟩⟩⟩⟩⟩⟩⟩⟩⟩⟩⟩⟩⟩⟩⟩⟩⟩⟩⟩⟩⟩⟩⟩⟩⟩⟩⟩⟩⟩⟩⟩⟩⟩⟩⟩⟩⟩⟩⟩⟩⟩⟩⟩⟩⟩⟩⟩⟩⟩⟩⟩⟩⟩⟩⟩⟩⟩⟩⟩⟩⟩⟩⟩⟩⟩⟩⟩⟩⟩⟩⟩⟩⟩⟩⟩⟩⟩⟩⟩⟩⟩⟩⟩⟩⟩⟩⟩⟩⟩⟩⟩⟩⟩⟩⟩⟩⟩⟩⟩⟩
set_option maxRecDepth 100000 in
theorem ord_inj : ∀ k ∈ q_ids false, ∀ k' ∈ q_ids false, ordA k = ordA k' → k = k' := by decide +kernel
set_option maxRecDepth 100000 in
theorem start_world {dC : Nat → ClassId} {dI : Nat → Nat → Nat} {cT : Nat → ClassId} {sz : Nat} {H : Heap} (hP : va_P (dC, dI) vwCl (wsC (g0 dC dI cT sz) (clF (g0 dC dI cT sz))) H) : va_P (dC, dI) vwCl (wsOf (g1 dC dI cT sz) mem0) H := by
  intro i q hq
  obtain ⟨k, h1, h2, rfl⟩ := ws_inv hq
  have h2 : lvB false k := by rw [← flg_g1 dC dI cT sz]; exact h2
  obtain ⟨e, he, hh⟩ := st_all dC dI cT sz k (q_ids_mem h2)
  exact hh H (hP (ordA k) _ (wsC_at he))
set_option maxRecDepth 100000 in
theorem GOK_start {dC : Nat → ClassId} {dI : Nat → Nat → Nat} {cT : Nat → ClassId} {sz : Nat} {s : State} (h : GOC (g0 dC dI cT sz) s) : GOK (g1 dC dI cT sz) s :=
  ⟨h.1, h.2.1, h.2.2.1, fun k k' h1 h2 he => ord_inj k (q_ids_mem (by rw [← flg_g1 dC dI cT sz]; exact h1)) k' (q_ids_mem (by rw [← flg_g1 dC dI cT sz]; exact h2)) (Nat.add_left_cancel he)⟩
set_option maxRecDepth 100000 in
theorem nest_all {args : Array Value} {s : State} (hts : ∀ w ∈ lw_tbl, w.before args s = true) : ∀ q ∈ q_nest, va_Nw (q_nestw q) s := by
  have on : ∀ q ∈ q_nest, q_nestw q ∈ lw_tbl := List.forall_mem_cons.mpr ⟨(List.mem_of_getElem? (i := 81) rfl), List.forall_mem_cons.mpr ⟨(List.mem_of_getElem? (i := 140) rfl), List.forall_mem_cons.mpr ⟨(List.mem_of_getElem? (i := 189) rfl), List.forall_mem_cons.mpr ⟨(List.mem_of_getElem? (i := 254) rfl), List.forall_mem_cons.mpr ⟨(List.mem_of_getElem? (i := 305) rfl), List.forall_mem_cons.mpr ⟨(List.mem_of_getElem? (i := 701) rfl), List.forall_mem_cons.mpr ⟨(List.mem_of_getElem? (i := 145) rfl), List.forall_mem_cons.mpr ⟨(List.mem_of_getElem? (i := 630) rfl), List.forall_mem_cons.mpr ⟨(List.mem_of_getElem? (i := 669) rfl), List.forall_mem_cons.mpr ⟨(List.mem_of_getElem? (i := 710) rfl), List.forall_mem_cons.mpr ⟨(List.mem_of_getElem? (i := 711) rfl), List.forall_mem_cons.mpr ⟨(List.mem_of_getElem? (i := 670) rfl), List.forall_mem_cons.mpr ⟨(List.mem_of_getElem? (i := 734) rfl), List.forall_mem_cons.mpr ⟨(List.mem_of_getElem? (i := 87) rfl), List.forall_mem_cons.mpr ⟨(List.mem_of_getElem? (i := 752) rfl), List.forall_mem_cons.mpr ⟨(List.mem_of_getElem? (i := 753) rfl), List.forall_mem_cons.mpr ⟨(List.mem_of_getElem? (i := 754) rfl), List.forall_mem_cons.mpr ⟨(List.mem_of_getElem? (i := 755) rfl), List.forall_mem_cons.mpr ⟨(List.mem_of_getElem? (i := 756) rfl), List.forall_mem_cons.mpr ⟨(List.mem_of_getElem? (i := 484) rfl), List.forall_mem_cons.mpr ⟨(List.mem_of_getElem? (i := 491) rfl), List.forall_mem_cons.mpr ⟨(List.mem_of_getElem? (i := 259) rfl), List.forall_mem_cons.mpr ⟨(List.mem_of_getElem? (i := 475) rfl), List.forall_mem_cons.mpr ⟨(List.mem_of_getElem? (i := 478) rfl), List.forall_mem_cons.mpr ⟨(List.mem_of_getElem? (i := 481) rfl), List.forall_mem_cons.mpr ⟨(List.mem_of_getElem? (i := 195) rfl), List.forall_mem_cons.mpr ⟨(List.mem_of_getElem? (i := 820) rfl), List.forall_mem_cons.mpr ⟨(List.mem_of_getElem? (i := 818) rfl), List.forall_mem_cons.mpr ⟨(List.mem_of_getElem? (i := 819) rfl), List.forall_mem_cons.mpr ⟨(List.mem_of_getElem? (i := 841) rfl), fun _ h => absurd h List.not_mem_nil⟩⟩⟩⟩⟩⟩⟩⟩⟩⟩⟩⟩⟩⟩⟩⟩⟩⟩⟩⟩⟩⟩⟩⟩⟩⟩⟩⟩⟩⟩
  exact fun q hq => va_Nw.of rfl (hts _ (on q hq))
set_option maxRecDepth 100000 in
theorem words_all {args : Array Value} {s : State} (hts : ∀ w ∈ lw_tbl, w.before args s = true) : ∀ q ∈ vwCl, ∀ w ∈ u_ws q.1 q.2.1 q.2.2, va_Nw w s := by
  have on : ∀ q ∈ vwCl, ∀ w ∈ u_ws q.1 q.2.1 q.2.2, w ∈ lw_tbl := List.forall_mem_cons.mpr ⟨inX0, List.forall_mem_cons.mpr ⟨inX1, List.forall_mem_cons.mpr ⟨inX2, List.forall_mem_cons.mpr ⟨inX3, List.forall_mem_cons.mpr ⟨inX4, List.forall_mem_cons.mpr ⟨inX5, List.forall_mem_cons.mpr ⟨inX6, List.forall_mem_cons.mpr ⟨inX7, fun _ h => absurd h List.not_mem_nil⟩⟩⟩⟩⟩⟩⟩⟩
  exact fun q hq w hw => va_Nw.of (u_on hw) (hts _ (on q hq w hw))
set_option maxRecDepth 100000 in
theorem known_all {args : Array Value} {s : State} (hts : ∀ w ∈ lw_tbl, w.before args s = true) : ∃ (dC : Nat → ClassId) (dI : Nat → Nat → Nat), ∀ (k : Nat) (q : vw_C), vwCl[k]? = some q → u_Kn s q.1 q.2.1 q.2.2 (dC k) (dI k) := by
  obtain ⟨c0, i0, h0⟩ := u_known (C := RX0) (T := TX0) (N := 3) (n := 3) hts inX0 (hts (.instantiable RX0 3) (List.mem_of_getElem? (i := 86) rfl))
  obtain ⟨c1, i1, h1⟩ := u_known (C := RX1) (T := TX1) (N := 13) (n := 13) hts inX1 (hts (.instantiable RX1 13) (List.mem_of_getElem? (i := 139) rfl))
  obtain ⟨c2, i2, h2⟩ := u_known (C := RX2) (T := TX2) (N := 6) (n := 6) hts inX2 (hts (.instantiable RX2 6) (List.mem_of_getElem? (i := 304) rfl))
  obtain ⟨c3, i3, h3⟩ := u_known (C := RX3) (T := TX3) (N := 3) (n := 3) hts inX3 (hts (.instantiable RX3 3) (List.mem_of_getElem? (i := 80) rfl))
  obtain ⟨c4, i4, h4⟩ := u_known (C := RX4) (T := TX4) (N := 14) (n := 14) hts inX4 (hts (.instantiable RX4 14) (List.mem_of_getElem? (i := 253) rfl))
  obtain ⟨c5, i5, h5⟩ := u_known (C := RX5) (T := TX5) (N := 13) (n := 13) hts inX5 (hts (.instantiable RX5 13) (List.mem_of_getElem? (i := 188) rfl))
  obtain ⟨c6, i6, h6⟩ := u_known (C := RX6) (T := TX6) (N := 4) (n := 4) hts inX6 (hts (.instantiable RX6 4) (List.mem_of_getElem? (i := 194) rfl))
  obtain ⟨c7, i7, h7⟩ := u_known (C := RX7) (T := TX7) (N := 8) (n := 8) hts inX7 (hts (.instantiable RX7 8) (List.mem_of_getElem? (i := 71) rfl))
  refine ⟨fun k => match k with | 0 => c0 | 1 => c1 | 2 => c2 | 3 => c3 | 4 => c4 | 5 => c5 | 6 => c6 | _ => c7, fun k => match k with | 0 => i0 | 1 => i1 | 2 => i2 | 3 => i3 | 4 => i4 | 5 => i5 | 6 => i6 | _ => i7, ?_⟩
  intro k q hq
  match k, hq with
  | 0, hq => cases hq; exact h0
  | 1, hq => cases hq; exact h1
  | 2, hq => cases hq; exact h2
  | 3, hq => cases hq; exact h3
  | 4, hq => cases hq; exact h4
  | 5, hq => cases hq; exact h5
  | 6, hq => cases hq; exact h6
  | 7, hq => cases hq; exact h7
  | k + 8, hq => simp [vwCl] at hq
set_option maxRecDepth 100000 in
theorem arr_all {args : Array Value} {s : State} (hts : ∀ w ∈ lw_tbl, w.before args s = true) : ∃ cT : Nat → ClassId, ∀ (k : Nat) (q : ClassId × FieldType), ([(cT 0, .int), (cT 1, .boolean), (cT 2, .object RX3)] : List (ClassId × FieldType))[k]? = some q → ArrOfT s q.1 q.2 ∧ va_RA s q.1 q.2 := by
  obtain ⟨a0, k0, p0, h01, h02, h03⟩ := Cond.arrayClass_spec (hts (.arrayClass .int) (List.mem_of_getElem? (i := 115) rfl))
  obtain ⟨a1, k1, p1, h11, h12, h13⟩ := Cond.arrayClass_spec (hts (.arrayClass .boolean) (List.mem_of_getElem? (i := 186) rfl))
  obtain ⟨p2, a2, k2, h20, -, h21, h22, h23⟩ := Cond.arrayOver_spec (hts (.arrayOver (.object RX3)) (List.mem_of_getElem? (i := 79) rfl))
  refine ⟨fun k => match k with | 0 => a0 | 1 => a1 | _ => a2, ?_⟩
  intro k q hq
  match k, hq with
  | 0, hq => cases hq; exact ⟨fun n z => ⟨fun k h => (by cases h), k0, h02, p0, h03⟩, h01⟩
  | 1, hq => cases hq; exact ⟨fun n z => ⟨fun k h => (by cases h), k1, h12, p1, h13⟩, h11⟩
  | 2, hq => cases hq; exact ⟨fun n z => ⟨fun k h => (by cases h), k2, h21, p2, h22⟩, k2, p2, h21, h22, h20, h23⟩
  | k + 3, hq => simp at hq
set_option maxRecDepth 100000 in
theorem gx_start {args : Array Value} {s : State} {A : Nat → Prop} (hts : ∀ w ∈ lw_tbl, w.before args s = true) (hg : ∀ c ∈ flatC (Jvm.Cond.and given_1 narrow_1), c.before args s = true) (hA : ∀ a : Nat, a < s.heap.size → ¬ A a) : GX A s s.heap := by
  refine ⟨vx_Zqof (hts (.laysStatic Bundle.tN "UNASSIGNED_STACK" Bundle.steD) (List.mem_of_getElem? (i := 392) rfl)) (hts (.initialized Bundle.tN) (List.mem_of_getElem? (i := 62) rfl)) (hg (.isRef (.static Bundle.tN "UNASSIGNED_STACK" Bundle.steD)) (by decide +kernel)) hA, vx_Zqof (hts (.laysStatic Bundle.tN "SUPPRESSED_SENTINEL" Bundle.listD) (List.mem_of_getElem? (i := 394) rfl)) (hts (.initialized Bundle.tN) (List.mem_of_getElem? (i := 62) rfl)) (hg (.isRef (.static Bundle.tN "SUPPRESSED_SENTINEL" Bundle.listD)) (by decide +kernel)) hA, ?_, ?_, ?_, ?_⟩
  · have on : ∀ q ∈ q_strs, Cond.stringRef "AffixWorks" q.1 q.2 ∈ lw_tbl := List.forall_mem_cons.mpr ⟨(List.mem_of_getElem? (i := 619) rfl), List.forall_mem_cons.mpr ⟨(List.mem_of_getElem? (i := 952) rfl), List.forall_mem_cons.mpr ⟨(List.mem_of_getElem? (i := 620) rfl), List.forall_mem_cons.mpr ⟨(List.mem_of_getElem? (i := 757) rfl), List.forall_mem_cons.mpr ⟨(List.mem_of_getElem? (i := 775) rfl), List.forall_mem_cons.mpr ⟨(List.mem_of_getElem? (i := 917) rfl), List.forall_mem_cons.mpr ⟨(List.mem_of_getElem? (i := 960) rfl), List.forall_mem_cons.mpr ⟨(List.mem_of_getElem? (i := 966) rfl), List.forall_mem_cons.mpr ⟨(List.mem_of_getElem? (i := 967) rfl), List.forall_mem_cons.mpr ⟨(List.mem_of_getElem? (i := 450) rfl), List.forall_mem_cons.mpr ⟨(List.mem_of_getElem? (i := 601) rfl), List.forall_mem_cons.mpr ⟨(List.mem_of_getElem? (i := 440) rfl), List.forall_mem_cons.mpr ⟨(List.mem_of_getElem? (i := 853) rfl), List.forall_mem_cons.mpr ⟨(List.mem_of_getElem? (i := 904) rfl), List.forall_mem_cons.mpr ⟨(List.mem_of_getElem? (i := 406) rfl), List.forall_mem_cons.mpr ⟨(List.mem_of_getElem? (i := 805) rfl), List.forall_mem_cons.mpr ⟨(List.mem_of_getElem? (i := 650) rfl), List.forall_mem_cons.mpr ⟨(List.mem_of_getElem? (i := 712) rfl), fun _ h => absurd h List.not_mem_nil⟩⟩⟩⟩⟩⟩⟩⟩⟩⟩⟩⟩⟩⟩⟩⟩⟩⟩
    have on2 : ∀ q ∈ q_strs, Cond.exactly (.string "AffixWorks" q.1) "java/lang/String" ∈ flatC (Jvm.Cond.and given_1 narrow_1) := by decide +kernel
    intro q hq
    obtain ⟨a, -, -, -, ha, -⟩ := Cond.exactly_spec (hg _ (on2 q hq))
    exact ⟨a, vk_R.of (hts _ (on q hq)) ha⟩
  · intro x hx
    match x, hx with
    | 0, _ => exact va_Nw.of rfl (hts _ (List.mem_of_getElem? (i := 443) rfl))
    | 1, _ => exact va_Nw.of rfl (hts _ (List.mem_of_getElem? (i := 643) rfl))
    | 2, _ => exact va_Nw.of rfl (hts _ (List.mem_of_getElem? (i := 367) rfl))
    | x + 3, hx => omega
  · have on : ∀ x, x < 3 → ∀ y, y < 3 → x ≠ y → Cond.not (.castable (exN x) (exN y)) ∈ flatC (Jvm.Cond.and given_1 narrow_1) := by decide +kernel
    exact fun x hx y hy e => va_Nc.of (hg _ (on x hx y hy e))
  · have on : ∀ Y ∈ exY, Cond.declares (Bundle.initS Y) ∈ lw_tbl := List.forall_mem_cons.mpr ⟨(List.mem_of_getElem? (i := 369) rfl), List.forall_mem_cons.mpr ⟨(List.mem_of_getElem? (i := 371) rfl), List.forall_mem_cons.mpr ⟨(List.mem_of_getElem? (i := 373) rfl), fun _ h => absurd h List.not_mem_nil⟩⟩⟩
    exact fun Y hY => va_Nw.of rfl (hts _ (on Y hY))
