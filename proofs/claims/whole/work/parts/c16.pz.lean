/-! which exceptions the class throws -/
def EX {α : Type} (S : List Nat) (o : Option ((α ⊕ Nat) × Mem)) : Prop := ∀ x m, o = some (.inr x, m) → x ∈ S
theorem EX.mono {α : Type} {S S' : List Nat} {o : Option ((α ⊕ Nat) × Mem)} (h : EX S o) (hs : ∀ x, x ∈ S → x ∈ S') : EX S' o := fun x m e => hs x (h x m e)
theorem ex_l {α : Type} {S : List Nat} {v : α} {m : Mem} : EX S (some (.inl v, m)) := fun x m e => by cases e
theorem ex_r {α : Type} {S : List Nat} {k : Nat} {m : Mem} (h : k ∈ S) : EX (α := α) S (some (.inr k, m)) := fun x m e => by
  have e1 := congrArg Prod.fst (Option.some.inj e)
  have e2 : k = x := Sum.inr.inj e1
  rw [← e2]; exact h
theorem ex_n {α : Type} {S : List Nat} : EX (α := α) S none := fun x m e => by cases e
theorem ex_gd {α : Type} {S : List Nat} {b : Bool} {o : Option ((α ⊕ Nat) × Mem)} (h : EX S o) : EX S (gd b o) := by
  cases b with
  | true => exact h
  | false => exact ex_n
theorem ex_b {α β : Type} {S : List Nat} {e : β} {f : β → Option ((α ⊕ Nat) × Mem)} (h : EX S (f e)) : EX S (bnd e f) := h
theorem ex_c {α β : Type} {S : List Nat} {o : Option (β × Mem)} {f : β → Mem → Option ((α ⊕ Nat) × Mem)} (h : ∀ r m, EX S (f r m)) : EX S (cal o f) := by
  cases o with
  | none => exact ex_n
  | some p => exact h p.1 p.2
theorem ex_v {α : Type} {S : List Nat} {o : Option Mem} {f : Mem → Option ((α ⊕ Nat) × Mem)} (h : ∀ m, EX S (f m)) : EX S (calv o f) := by
  cases o with
  | none => exact ex_n
  | some p => exact h p
theorem ex_x {α β : Type} {S : List Nat} {o : Option ((β ⊕ Nat) × Mem)} {f : β → Mem → Option ((α ⊕ Nat) × Mem)} (h0 : EX S o) (h : ∀ r m, EX S (f r m)) : EX S (calx o f) := by
  cases o with
  | none => exact ex_n
  | some p =>
    obtain ⟨r, m⟩ := p
    cases r with
    | inl v => exact h v m
    | inr x => exact ex_r (h0 x m rfl)
theorem ex_i {α : Type} {S : List Nat} {c : Prop} {hc : Decidable c} {a b : Option ((α ⊕ Nat) × Mem)} (ha : EX S a) (hb : EX S b) : EX S (@ite _ c hc a b) := by
  by_cases h : c
  · rw [if_pos h]; exact ha
  · rw [if_neg h]; exact hb
theorem ex_F_X7_type {N : Nat} {m : Mem} {x1 : Int32} : EX [0, 1] (F_X7_type N m x1) := by
  unfold F_X7_type
  repeat' (first | with_reducible exact ex_l | ((with_reducible refine ex_r ?_); decide) | with_reducible exact ex_n | with_reducible refine ex_gd ?_ | with_reducible refine ex_i ?_ ?_ | with_reducible refine ex_x ?_ (fun _ _ => ?_) | with_reducible refine ex_c (fun _ _ => ?_) | with_reducible refine ex_v (fun _ => ?_) | with_reducible refine ex_b ?_)
theorem ex_F_X7_keepDraft {N : Nat} {m : Mem} : EX [1] (F_X7_keepDraft N m) := by
  unfold F_X7_keepDraft
  repeat' (first | with_reducible exact ex_l | ((with_reducible refine ex_r ?_); decide) | with_reducible exact ex_n | with_reducible refine ex_gd ?_ | with_reducible refine ex_i ?_ ?_ | with_reducible refine ex_x ?_ (fun _ _ => ?_) | with_reducible refine ex_c (fun _ _ => ?_) | with_reducible refine ex_v (fun _ => ?_) | with_reducible refine ex_b ?_)
theorem ex_F_X7_pair {N : Nat} {m : Mem} {x1 : Int32} {x2 : Int32} {x3 : Int32} : EX [0, 1] (F_X7_pair N m x1 x2 x3) := by
  unfold F_X7_pair B_X7_pair_14 B_X7_pair_34
  repeat' (first | with_reducible exact ex_l | ((with_reducible refine ex_r ?_); decide) | with_reducible exact ex_n | ((with_reducible refine EX.mono ex_F_X7_keepDraft ?_); decide) | with_reducible refine ex_gd ?_ | with_reducible refine ex_i ?_ ?_ | with_reducible refine ex_x ?_ (fun _ _ => ?_) | with_reducible refine ex_c (fun _ _ => ?_) | with_reducible refine ex_v (fun _ => ?_) | with_reducible refine ex_b ?_)
theorem ex_L_X7_word_16 {N : Nat} : ∀ f a1 a2, EX [1] (L_X7_word_16 N  f a1 a2) := by
  intro f
  induction f with
  | zero => intros; exact ex_n
  | succ f ih =>
    intro a1 a2
    show EX [1] (S_X7_word_16 N  (L_X7_word_16 N  f) a1 a2)
    unfold S_X7_word_16
    repeat' (first | with_reducible exact ex_l | ((with_reducible refine ex_r ?_); decide) | with_reducible exact ex_n | ((with_reducible refine EX.mono ex_F_X7_keepDraft ?_); decide) | with_reducible exact ih .. | with_reducible refine ex_gd ?_ | with_reducible refine ex_i ?_ ?_ | with_reducible refine ex_x ?_ (fun _ _ => ?_) | with_reducible refine ex_c (fun _ _ => ?_) | with_reducible refine ex_v (fun _ => ?_) | with_reducible refine ex_b ?_)
theorem ex_F_X7_word {N : Nat} {m : Mem} : EX [1] (F_X7_word N m) := by
  unfold F_X7_word
  repeat' (first | with_reducible exact ex_l | ((with_reducible refine ex_r ?_); decide) | with_reducible exact ex_n | ((with_reducible refine EX.mono (ex_L_X7_word_16 ..) ?_); decide) | with_reducible refine ex_gd ?_ | with_reducible refine ex_i ?_ ?_ | with_reducible refine ex_x ?_ (fun _ _ => ?_) | with_reducible refine ex_c (fun _ _ => ?_) | with_reducible refine ex_v (fun _ => ?_) | with_reducible refine ex_b ?_)
theorem ex_L_X7_any_11 {N : Nat} : ∀ f a1 a2, EX [1] (L_X7_any_11 N  f a1 a2) := by
  intro f
  induction f with
  | zero => intros; exact ex_n
  | succ f ih =>
    intro a1 a2
    show EX [1] (S_X7_any_11 N  (L_X7_any_11 N  f) a1 a2)
    unfold S_X7_any_11
    repeat' (first | with_reducible exact ex_l | ((with_reducible refine ex_r ?_); decide) | with_reducible exact ex_n | ((with_reducible refine EX.mono ex_F_X7_keepDraft ?_); decide) | with_reducible exact ih .. | with_reducible refine ex_gd ?_ | with_reducible refine ex_i ?_ ?_ | with_reducible refine ex_x ?_ (fun _ _ => ?_) | with_reducible refine ex_c (fun _ _ => ?_) | with_reducible refine ex_v (fun _ => ?_) | with_reducible refine ex_b ?_)
theorem ex_F_X7_any {N : Nat} {m : Mem} : EX [1] (F_X7_any N m) := by
  unfold F_X7_any
  repeat' (first | with_reducible exact ex_l | ((with_reducible refine ex_r ?_); decide) | with_reducible exact ex_n | ((with_reducible refine EX.mono (ex_L_X7_any_11 ..) ?_); decide) | with_reducible refine ex_gd ?_ | with_reducible refine ex_i ?_ ?_ | with_reducible refine ex_x ?_ (fun _ _ => ?_) | with_reducible refine ex_c (fun _ _ => ?_) | with_reducible refine ex_v (fun _ => ?_) | with_reducible refine ex_b ?_)
theorem ex_F_X7_needMachine {N : Nat} {m : Mem} {x1 : Int32} : EX [2] (F_X7_needMachine N m x1) := by
  unfold F_X7_needMachine B_X7_needMachine_12
  repeat' (first | with_reducible exact ex_l | ((with_reducible refine ex_r ?_); decide) | with_reducible exact ex_n | with_reducible refine ex_gd ?_ | with_reducible refine ex_i ?_ ?_ | with_reducible refine ex_x ?_ (fun _ _ => ?_) | with_reducible refine ex_c (fun _ _ => ?_) | with_reducible refine ex_v (fun _ => ?_) | with_reducible refine ex_b ?_)
theorem ex_F_X7_join {N : Nat} {m : Mem} {x1 : Int32} {x2 : Int32} : EX [1, 2] (F_X7_join N m x1 x2) := by
  unfold F_X7_join
  repeat' (first | with_reducible exact ex_l | ((with_reducible refine ex_r ?_); decide) | with_reducible exact ex_n | ((with_reducible refine EX.mono ex_F_X7_needMachine ?_); decide) | ((with_reducible refine EX.mono ex_F_X7_keepDraft ?_); decide) | with_reducible refine ex_gd ?_ | with_reducible refine ex_i ?_ ?_ | with_reducible refine ex_x ?_ (fun _ _ => ?_) | with_reducible refine ex_c (fun _ _ => ?_) | with_reducible refine ex_v (fun _ => ?_) | with_reducible refine ex_b ?_)
theorem ex_F_X7_unite {N : Nat} {m : Mem} {x1 : Int32} {x2 : Int32} : EX [1, 2] (F_X7_unite N m x1 x2) := by
  unfold F_X7_unite
  repeat' (first | with_reducible exact ex_l | ((with_reducible refine ex_r ?_); decide) | with_reducible exact ex_n | ((with_reducible refine EX.mono ex_F_X7_needMachine ?_); decide) | ((with_reducible refine EX.mono ex_F_X7_keepDraft ?_); decide) | with_reducible refine ex_gd ?_ | with_reducible refine ex_i ?_ ?_ | with_reducible refine ex_x ?_ (fun _ _ => ?_) | with_reducible refine ex_c (fun _ _ => ?_) | with_reducible refine ex_v (fun _ => ?_) | with_reducible refine ex_b ?_)
theorem ex_F_X7_repeat {N : Nat} {m : Mem} {x1 : Int32} : EX [1, 2] (F_X7_repeat N m x1) := by
  unfold F_X7_repeat B_X7_repeat_28
  repeat' (first | with_reducible exact ex_l | ((with_reducible refine ex_r ?_); decide) | with_reducible exact ex_n | ((with_reducible refine EX.mono ex_F_X7_needMachine ?_); decide) | ((with_reducible refine EX.mono ex_F_X7_keepDraft ?_); decide) | with_reducible refine ex_gd ?_ | with_reducible refine ex_i ?_ ?_ | with_reducible refine ex_x ?_ (fun _ _ => ?_) | with_reducible refine ex_c (fun _ _ => ?_) | with_reducible refine ex_v (fun _ => ?_) | with_reducible refine ex_b ?_)
theorem ex_L_X7_turn_26 {N : Nat} : ∀ f a1 a2 a3, EX [1] (L_X7_turn_26 N  f a1 a2 a3) := by
  intro f
  induction f with
  | zero => intros; exact ex_n
  | succ f ih =>
    intro a1 a2 a3
    show EX [1] (S_X7_turn_26 N  (L_X7_turn_26 N  f) a1 a2 a3)
    unfold S_X7_turn_26
    repeat' (first | with_reducible exact ex_l | ((with_reducible refine ex_r ?_); decide) | with_reducible exact ex_n | ((with_reducible refine EX.mono ex_F_X7_keepDraft ?_); decide) | with_reducible exact ih .. | with_reducible refine ex_gd ?_ | with_reducible refine ex_i ?_ ?_ | with_reducible refine ex_x ?_ (fun _ _ => ?_) | with_reducible refine ex_c (fun _ _ => ?_) | with_reducible refine ex_v (fun _ => ?_) | with_reducible refine ex_b ?_)
theorem ex_F_X7_turn {N : Nat} {m : Mem} {x1 : Int32} : EX [1, 2] (F_X7_turn N m x1) := by
  unfold F_X7_turn
  repeat' (first | with_reducible exact ex_l | ((with_reducible refine ex_r ?_); decide) | with_reducible exact ex_n | ((with_reducible refine EX.mono ex_F_X7_needMachine ?_); decide) | ((with_reducible refine EX.mono (ex_L_X7_turn_26 ..) ?_); decide) | with_reducible refine ex_gd ?_ | with_reducible refine ex_i ?_ ?_ | with_reducible refine ex_x ?_ (fun _ _ => ?_) | with_reducible refine ex_c (fun _ _ => ?_) | with_reducible refine ex_v (fun _ => ?_) | with_reducible refine ex_b ?_)
theorem ex_F_X7_compose {N : Nat} {m : Mem} {x1 : Int32} {x2 : Int32} : EX [1, 2] (F_X7_compose N m x1 x2) := by
  unfold F_X7_compose
  repeat' (first | with_reducible exact ex_l | ((with_reducible refine ex_r ?_); decide) | with_reducible exact ex_n | ((with_reducible refine EX.mono ex_F_X7_needMachine ?_); decide) | ((with_reducible refine EX.mono ex_F_X7_keepDraft ?_); decide) | with_reducible refine ex_gd ?_ | with_reducible refine ex_i ?_ ?_ | with_reducible refine ex_x ?_ (fun _ _ => ?_) | with_reducible refine ex_c (fun _ _ => ?_) | with_reducible refine ex_v (fun _ => ?_) | with_reducible refine ex_b ?_)
theorem ex_L_X7_side_27 {N : Nat} : ∀ f a1 a2 a3 a4, EX [1] (L_X7_side_27 N  f a1 a2 a3 a4) := by
  intro f
  induction f with
  | zero => intros; exact ex_n
  | succ f ih =>
    intro a1 a2 a3 a4
    show EX [1] (S_X7_side_27 N  (L_X7_side_27 N  f) a1 a2 a3 a4)
    unfold S_X7_side_27 B_X7_side_68
    repeat' (first | with_reducible exact ex_l | ((with_reducible refine ex_r ?_); decide) | with_reducible exact ex_n | ((with_reducible refine EX.mono ex_F_X7_keepDraft ?_); decide) | with_reducible exact ih .. | with_reducible refine ex_gd ?_ | with_reducible refine ex_i ?_ ?_ | with_reducible refine ex_x ?_ (fun _ _ => ?_) | with_reducible refine ex_c (fun _ _ => ?_) | with_reducible refine ex_v (fun _ => ?_) | with_reducible refine ex_b ?_)
theorem ex_F_X7_side {N : Nat} {m : Mem} {x1 : Int32} {x2 : Int32} : EX [1, 2] (F_X7_side N m x1 x2) := by
  unfold F_X7_side
  repeat' (first | with_reducible exact ex_l | ((with_reducible refine ex_r ?_); decide) | with_reducible exact ex_n | ((with_reducible refine EX.mono ex_F_X7_needMachine ?_); decide) | ((with_reducible refine EX.mono (ex_L_X7_side_27 ..) ?_); decide) | with_reducible refine ex_gd ?_ | with_reducible refine ex_i ?_ ?_ | with_reducible refine ex_x ?_ (fun _ _ => ?_) | with_reducible refine ex_c (fun _ _ => ?_) | with_reducible refine ex_v (fun _ => ?_) | with_reducible refine ex_b ?_)
theorem ex_F_X7_needPlain {N : Nat} {m : Mem} {x1 : Int32} : EX [1] (F_X7_needPlain N m x1) := by
  unfold F_X7_needPlain
  repeat' (first | with_reducible exact ex_l | ((with_reducible refine ex_r ?_); decide) | with_reducible exact ex_n | with_reducible refine ex_gd ?_ | with_reducible refine ex_i ?_ ?_ | with_reducible refine ex_x ?_ (fun _ _ => ?_) | with_reducible refine ex_c (fun _ _ => ?_) | with_reducible refine ex_v (fun _ => ?_) | with_reducible refine ex_b ?_)
theorem ex_F_X7_needSets {N : Nat} {m : Mem} {x0 : Int32} : EX [1] (F_X7_needSets N m x0) := by
  unfold F_X7_needSets
  repeat' (first | with_reducible exact ex_l | ((with_reducible refine ex_r ?_); decide) | with_reducible exact ex_n | with_reducible refine ex_gd ?_ | with_reducible refine ex_i ?_ ?_ | with_reducible refine ex_x ?_ (fun _ _ => ?_) | with_reducible refine ex_c (fun _ _ => ?_) | with_reducible refine ex_v (fun _ => ?_) | with_reducible refine ex_b ?_)
theorem ex_F_X7_needStates {N : Nat} {m : Mem} {x0 : Int32} : EX [1] (F_X7_needStates N m x0) := by
  unfold F_X7_needStates
  repeat' (first | with_reducible exact ex_l | ((with_reducible refine ex_r ?_); decide) | with_reducible exact ex_n | with_reducible refine ex_gd ?_ | with_reducible refine ex_i ?_ ?_ | with_reducible refine ex_x ?_ (fun _ _ => ?_) | with_reducible refine ex_c (fun _ _ => ?_) | with_reducible refine ex_v (fun _ => ?_) | with_reducible refine ex_b ?_)
theorem ex_F_X7_least {N : Nat} {m : Mem} {x1 : Int32} : EX [1, 2] (F_X7_least N m x1) := by
  unfold F_X7_least
  repeat' (first | with_reducible exact ex_l | ((with_reducible refine ex_r ?_); decide) | with_reducible exact ex_n | ((with_reducible refine EX.mono ex_F_X7_needMachine ?_); decide) | ((with_reducible refine EX.mono ex_F_X7_needPlain ?_); decide) | ((with_reducible refine EX.mono ex_F_X7_needSets ?_); decide) | ((with_reducible refine EX.mono ex_F_X7_needStates ?_); decide) | ((with_reducible refine EX.mono ex_F_X7_keepDraft ?_); decide) | with_reducible refine ex_gd ?_ | with_reducible refine ex_i ?_ ?_ | with_reducible refine ex_x ?_ (fun _ _ => ?_) | with_reducible refine ex_c (fun _ _ => ?_) | with_reducible refine ex_v (fun _ => ?_) | with_reducible refine ex_b ?_)
theorem ex_F_X7_meet {N : Nat} {m : Mem} {x1 : Int32} {x2 : Int32} {x3 : Int32} : EX [1, 2] (F_X7_meet N m x1 x2 x3) := by
  unfold F_X7_meet B_X7_meet_29
  repeat' (first | with_reducible exact ex_l | ((with_reducible refine ex_r ?_); decide) | with_reducible exact ex_n | ((with_reducible refine EX.mono ex_F_X7_needMachine ?_); decide) | ((with_reducible refine EX.mono ex_F_X7_needPlain ?_); decide) | ((with_reducible refine EX.mono ex_F_X7_needSets ?_); decide) | ((with_reducible refine EX.mono ex_F_X7_needStates ?_); decide) | ((with_reducible refine EX.mono ex_F_X7_keepDraft ?_); decide) | with_reducible refine ex_gd ?_ | with_reducible refine ex_i ?_ ?_ | with_reducible refine ex_x ?_ (fun _ _ => ?_) | with_reducible refine ex_c (fun _ _ => ?_) | with_reducible refine ex_v (fun _ => ?_) | with_reducible refine ex_b ?_)
theorem ex_F_X7_needRule {N : Nat} {m : Mem} {x0 : Int32} {x1 : Int32} {x2 : Int32} {x3 : Int32} : EX [0] (F_X7_needRule N m x0 x1 x2 x3) := by
  unfold F_X7_needRule B_X7_needRule_28
  repeat' (first | with_reducible exact ex_l | ((with_reducible refine ex_r ?_); decide) | with_reducible exact ex_n | with_reducible refine ex_gd ?_ | with_reducible refine ex_i ?_ ?_ | with_reducible refine ex_x ?_ (fun _ _ => ?_) | with_reducible refine ex_c (fun _ _ => ?_) | with_reducible refine ex_v (fun _ => ?_) | with_reducible refine ex_b ?_)
theorem ex_L_X7_rule_81 {N : Nat} {S : List Nat} {rec_72 : Mem → Int32 → Int32 → Int32 → Int32 → Int32 → Int32 → Option ((Int32 ⊕ Nat) × Mem)} (hrec_72 : ∀ b0 b1 b2 b3 b4 b5 b6, EX S (rec_72 b0 b1 b2 b3 b4 b5 b6)) : ∀ f a1 a2 a3 a4 a5 a6 a7 a8, EX S (L_X7_rule_81 N rec_72 f a1 a2 a3 a4 a5 a6 a7 a8) := by
  intro f
  induction f with
  | zero => intros; exact ex_n
  | succ f ih =>
    intro a1 a2 a3 a4 a5 a6 a7 a8
    show EX S (S_X7_rule_81 N rec_72 (L_X7_rule_81 N rec_72 f) a1 a2 a3 a4 a5 a6 a7 a8)
    unfold S_X7_rule_81 B_X7_rule_111 B_X7_rule_116 B_X7_rule_167 B_X7_rule_205
    repeat' (first | with_reducible exact ex_l | ((with_reducible refine ex_r ?_); decide) | with_reducible exact ex_n | with_reducible exact ih .. | with_reducible exact hrec_72 .. | with_reducible refine ex_gd ?_ | with_reducible refine ex_i ?_ ?_ | with_reducible refine ex_x ?_ (fun _ _ => ?_) | with_reducible refine ex_c (fun _ _ => ?_) | with_reducible refine ex_v (fun _ => ?_) | with_reducible refine ex_b ?_)
theorem ex_L_X7_rule_72 {N : Nat} : ∀ f a1 a2 a3 a4 a5 a6 a7, EX [1] (L_X7_rule_72 N  f a1 a2 a3 a4 a5 a6 a7) := by
  intro f
  induction f with
  | zero => intros; exact ex_n
  | succ f ih =>
    intro a1 a2 a3 a4 a5 a6 a7
    show EX [1] (S_X7_rule_72 N  (L_X7_rule_72 N  f) a1 a2 a3 a4 a5 a6 a7)
    unfold S_X7_rule_72
    repeat' (first | with_reducible exact ex_l | ((with_reducible refine ex_r ?_); decide) | with_reducible exact ex_n | ((with_reducible refine EX.mono ex_F_X7_keepDraft ?_); decide) | with_reducible exact ih .. | with_reducible exact ex_L_X7_rule_81 ih .. | with_reducible refine ex_gd ?_ | with_reducible refine ex_i ?_ ?_ | with_reducible refine ex_x ?_ (fun _ _ => ?_) | with_reducible refine ex_c (fun _ _ => ?_) | with_reducible refine ex_v (fun _ => ?_) | with_reducible refine ex_b ?_)
theorem ex_F_X7_rule {N : Nat} {m : Mem} {x1 : Int32} {x2 : Int32} {x3 : Int32} {x4 : Int32} {x5 : Int32} : EX [0, 1] (F_X7_rule N m x1 x2 x3 x4 x5) := by
  unfold F_X7_rule B_X7_rule_24 B_X7_rule_36 B_X7_rule_46 B_X7_rule_62
  repeat' (first | with_reducible exact ex_l | ((with_reducible refine ex_r ?_); decide) | with_reducible exact ex_n | ((with_reducible refine EX.mono ex_F_X7_needRule ?_); decide) | ((with_reducible refine EX.mono (ex_L_X7_rule_72 ..) ?_); decide) | with_reducible refine ex_gd ?_ | with_reducible refine ex_i ?_ ?_ | with_reducible refine ex_x ?_ (fun _ _ => ?_) | with_reducible refine ex_c (fun _ _ => ?_) | with_reducible refine ex_v (fun _ => ?_) | with_reducible refine ex_b ?_)
theorem ex_F_X7_size {N : Nat} {m : Mem} {x1 : Int32} : EX [2] (F_X7_size N m x1) := by
  unfold F_X7_size
  repeat' (first | with_reducible exact ex_l | ((with_reducible refine ex_r ?_); decide) | with_reducible exact ex_n | ((with_reducible refine EX.mono ex_F_X7_needMachine ?_); decide) | with_reducible refine ex_gd ?_ | with_reducible refine ex_i ?_ ?_ | with_reducible refine ex_x ?_ (fun _ _ => ?_) | with_reducible refine ex_c (fun _ _ => ?_) | with_reducible refine ex_v (fun _ => ?_) | with_reducible refine ex_b ?_)
theorem ex_F_X7_isEnd {N : Nat} {m : Mem} {x1 : Int32} {x2 : Int32} : EX [2] (F_X7_isEnd N m x1 x2) := by
  unfold F_X7_isEnd B_X7_isEnd_22
  repeat' (first | with_reducible exact ex_l | ((with_reducible refine ex_r ?_); decide) | with_reducible exact ex_n | ((with_reducible refine EX.mono ex_F_X7_needMachine ?_); decide) | with_reducible refine ex_gd ?_ | with_reducible refine ex_i ?_ ?_ | with_reducible refine ex_x ?_ (fun _ _ => ?_) | with_reducible refine ex_c (fun _ _ => ?_) | with_reducible refine ex_v (fun _ => ?_) | with_reducible refine ex_b ?_)
theorem ex_F_X7_arc {N : Nat} {m : Mem} {x1 : Int32} {x2 : Int32} {x3 : Int32} : EX [0, 2] (F_X7_arc N m x1 x2 x3) := by
  unfold F_X7_arc B_X7_arc_29
  repeat' (first | with_reducible exact ex_l | ((with_reducible refine ex_r ?_); decide) | with_reducible exact ex_n | ((with_reducible refine EX.mono ex_F_X7_needMachine ?_); decide) | with_reducible refine ex_gd ?_ | with_reducible refine ex_i ?_ ?_ | with_reducible refine ex_x ?_ (fun _ _ => ?_) | with_reducible refine ex_c (fun _ _ => ?_) | with_reducible refine ex_v (fun _ => ?_) | with_reducible refine ex_b ?_)
theorem ex_F_X7_isPlain {N : Nat} {m : Mem} {x1 : Int32} : EX [2] (F_X7_isPlain N m x1) := by
  unfold F_X7_isPlain
  repeat' (first | with_reducible exact ex_l | ((with_reducible refine ex_r ?_); decide) | with_reducible exact ex_n | ((with_reducible refine EX.mono ex_F_X7_needMachine ?_); decide) | with_reducible refine ex_gd ?_ | with_reducible refine ex_i ?_ ?_ | with_reducible refine ex_x ?_ (fun _ _ => ?_) | with_reducible refine ex_c (fun _ _ => ?_) | with_reducible refine ex_v (fun _ => ?_) | with_reducible refine ex_b ?_)
theorem ex_F_X7_needPlace {N : Nat} {m : Mem} {x0 : Int32} : EX [2] (F_X7_needPlace N m x0) := by
  unfold F_X7_needPlace
  repeat' (first | with_reducible exact ex_l | ((with_reducible refine ex_r ?_); decide) | with_reducible exact ex_n | with_reducible refine ex_gd ?_ | with_reducible refine ex_i ?_ ?_ | with_reducible refine ex_x ?_ (fun _ _ => ?_) | with_reducible refine ex_c (fun _ _ => ?_) | with_reducible refine ex_v (fun _ => ?_) | with_reducible refine ex_b ?_)
theorem ex_F_X7_answer {N : Nat} {m : Mem} {x1 : Int32} {x2 : Int32} {x3 : Int32} {x4 : Int32} : EX [0, 2] (F_X7_answer N m x1 x2 x3 x4) := by
  unfold F_X7_answer B_X7_answer_20
  repeat' (first | with_reducible exact ex_l | ((with_reducible refine ex_r ?_); decide) | with_reducible exact ex_n | ((with_reducible refine EX.mono ex_F_X7_needMachine ?_); decide) | ((with_reducible refine EX.mono ex_F_X7_needPlace ?_); decide) | with_reducible refine ex_gd ?_ | with_reducible refine ex_i ?_ ?_ | with_reducible refine ex_x ?_ (fun _ _ => ?_) | with_reducible refine ex_c (fun _ _ => ?_) | with_reducible refine ex_v (fun _ => ?_) | with_reducible refine ex_b ?_)
theorem ex_F_X7_answers {N : Nat} {m : Mem} {x1 : Int32} {x2 : Int32} : EX [2] (F_X7_answers N m x1 x2) := by
  unfold F_X7_answers
  repeat' (first | with_reducible exact ex_l | ((with_reducible refine ex_r ?_); decide) | with_reducible exact ex_n | ((with_reducible refine EX.mono ex_F_X7_needMachine ?_); decide) | with_reducible refine ex_gd ?_ | with_reducible refine ex_i ?_ ?_ | with_reducible refine ex_x ?_ (fun _ _ => ?_) | with_reducible refine ex_c (fun _ _ => ?_) | with_reducible refine ex_v (fun _ => ?_) | with_reducible refine ex_b ?_)
theorem ex_F_X7_cost {N : Nat} {m : Mem} {x1 : Int32} {x2 : Int32} : EX [2] (F_X7_cost N m x1 x2) := by
  unfold F_X7_cost
  repeat' (first | with_reducible exact ex_l | ((with_reducible refine ex_r ?_); decide) | with_reducible exact ex_n | ((with_reducible refine EX.mono ex_F_X7_needMachine ?_); decide) | with_reducible refine ex_gd ?_ | with_reducible refine ex_i ?_ ?_ | with_reducible refine ex_x ?_ (fun _ _ => ?_) | with_reducible refine ex_c (fun _ _ => ?_) | with_reducible refine ex_v (fun _ => ?_) | with_reducible refine ex_b ?_)
theorem ex_F_X7_best {N : Nat} {m : Mem} {x1 : Int32} {x2 : Int32} {x3 : Int32} : EX [2] (F_X7_best N m x1 x2 x3) := by
  unfold F_X7_best B_X7_best_39
  repeat' (first | with_reducible exact ex_l | ((with_reducible refine ex_r ?_); decide) | with_reducible exact ex_n | ((with_reducible refine EX.mono ex_F_X7_needMachine ?_); decide) | ((with_reducible refine EX.mono ex_F_X7_needPlace ?_); decide) | with_reducible refine ex_gd ?_ | with_reducible refine ex_i ?_ ?_ | with_reducible refine ex_x ?_ (fun _ _ => ?_) | with_reducible refine ex_c (fun _ _ => ?_) | with_reducible refine ex_v (fun _ => ?_) | with_reducible refine ex_b ?_)
theorem ex_F_X7_changes {N : Nat} {m : Mem} {x1 : Int32} : EX [2] (F_X7_changes N m x1) := by
  unfold F_X7_changes
  repeat' (first | with_reducible exact ex_l | ((with_reducible refine ex_r ?_); decide) | with_reducible exact ex_n | ((with_reducible refine EX.mono ex_F_X7_needMachine ?_); decide) | with_reducible refine ex_gd ?_ | with_reducible refine ex_i ?_ ?_ | with_reducible refine ex_x ?_ (fun _ _ => ?_) | with_reducible refine ex_c (fun _ _ => ?_) | with_reducible refine ex_v (fun _ => ?_) | with_reducible refine ex_b ?_)
theorem ex_F_X7_mended {N : Nat} {m : Mem} {x1 : Int32} {x2 : Int32} : EX [2] (F_X7_mended N m x1 x2) := by
  unfold F_X7_mended B_X7_mended_55
  repeat' (first | with_reducible exact ex_l | ((with_reducible refine ex_r ?_); decide) | with_reducible exact ex_n | ((with_reducible refine EX.mono ex_F_X7_needMachine ?_); decide) | ((with_reducible refine EX.mono ex_F_X7_needPlace ?_); decide) | with_reducible refine ex_gd ?_ | with_reducible refine ex_i ?_ ?_ | with_reducible refine ex_x ?_ (fun _ _ => ?_) | with_reducible refine ex_c (fun _ _ => ?_) | with_reducible refine ex_v (fun _ => ?_) | with_reducible refine ex_b ?_)
theorem ex_F_X7_apart {N : Nat} {m : Mem} {x1 : Int32} {x2 : Int32} {x3 : Int32} : EX [1, 2] (F_X7_apart N m x1 x2 x3) := by
  unfold F_X7_apart
  repeat' (first | with_reducible exact ex_l | ((with_reducible refine ex_r ?_); decide) | with_reducible exact ex_n | ((with_reducible refine EX.mono ex_F_X7_needMachine ?_); decide) | ((with_reducible refine EX.mono ex_F_X7_needPlace ?_); decide) | ((with_reducible refine EX.mono ex_F_X7_needPlain ?_); decide) | ((with_reducible refine EX.mono ex_F_X7_needSets ?_); decide) | with_reducible refine ex_gd ?_ | with_reducible refine ex_i ?_ ?_ | with_reducible refine ex_x ?_ (fun _ _ => ?_) | with_reducible refine ex_c (fun _ _ => ?_) | with_reducible refine ex_v (fun _ => ?_) | with_reducible refine ex_b ?_)
theorem ex_L_X7_ruled_19 {N : Nat} : ∀ f a1 a2 a3 a4 a5 a6 a7 a8, EX [] (L_X7_ruled_19 N  f a1 a2 a3 a4 a5 a6 a7 a8) := by
  intro f
  induction f with
  | zero => intros; exact ex_n
  | succ f ih =>
    intro a1 a2 a3 a4 a5 a6 a7 a8
    show EX [] (S_X7_ruled_19 N  (L_X7_ruled_19 N  f) a1 a2 a3 a4 a5 a6 a7 a8)
    unfold S_X7_ruled_19 B_X7_ruled_52 B_X7_ruled_74
    repeat' (first | with_reducible exact ex_l | ((with_reducible refine ex_r ?_); decide) | with_reducible exact ex_n | with_reducible exact ih .. | with_reducible refine ex_gd ?_ | with_reducible refine ex_i ?_ ?_ | with_reducible refine ex_x ?_ (fun _ _ => ?_) | with_reducible refine ex_c (fun _ _ => ?_) | with_reducible refine ex_v (fun _ => ?_) | with_reducible refine ex_b ?_)
theorem ex_F_X7_ruled {N : Nat} {m : Mem} {x1 : Int32} {x2 : Int32} {x3 : Int32} {x4 : Int32} {x5 : Int32} : EX [0, 2] (F_X7_ruled N m x1 x2 x3 x4 x5) := by
  unfold F_X7_ruled
  repeat' (first | with_reducible exact ex_l | ((with_reducible refine ex_r ?_); decide) | with_reducible exact ex_n | ((with_reducible refine EX.mono ex_F_X7_needPlace ?_); decide) | ((with_reducible refine EX.mono ex_F_X7_needRule ?_); decide) | ((with_reducible refine EX.mono (ex_L_X7_ruled_19 ..) ?_); decide) | with_reducible refine ex_gd ?_ | with_reducible refine ex_i ?_ ?_ | with_reducible refine ex_x ?_ (fun _ _ => ?_) | with_reducible refine ex_c (fun _ _ => ?_) | with_reducible refine ex_v (fun _ => ?_) | with_reducible refine ex_b ?_)
theorem ex_F_X7_learn {N : Nat} {m : Mem} {x1 : Int32} : EX [0, 1] (F_X7_learn N m x1) := by
  unfold F_X7_learn B_X7_learn_10
  repeat' (first | with_reducible exact ex_l | ((with_reducible refine ex_r ?_); decide) | with_reducible exact ex_n | with_reducible refine ex_gd ?_ | with_reducible refine ex_i ?_ ?_ | with_reducible refine ex_x ?_ (fun _ _ => ?_) | with_reducible refine ex_c (fun _ _ => ?_) | with_reducible refine ex_v (fun _ => ?_) | with_reducible refine ex_b ?_)
