/-! THE WORLD AS ONE MEMORY: cell k, place j holds an Int32; which cells there are, and of which kind, stands fixed (knd, alen, flds) -/
abbrev GT : Type := (Nat → ClassId) × (Nat → Nat → Nat) × (Nat → ClassId) × (Nat → Nat)
abbrev Mem : Type := Nat → Nat → Int32
abbrev AV : Type := Nat ⊕ Int32 ⊕ Value
abbrev q_r (k : Nat) : AV := Sum.inl k
abbrev q_i (x : Int32) : AV := Sum.inr (Sum.inl x)
abbrev q_v (v : Value) : AV := Sum.inr (Sum.inr v)
def toV (G : GT) : AV → Value
  | .inl k => .ref (G.2.2.2 k)
  | .inr (.inl x) => .int x
  | .inr (.inr v) => v
def qcat : AV → Nat
  | .inl _ => 1
  | .inr (.inl _) => 1
  | .inr (.inr v) => v.category
theorem qcat_eq (G : GT) (a : AV) : (toV G a).category = qcat a := by
  rcases a with k | x | v <;> rfl
abbrev ix (i : Int32) : Nat := i.toNatClampNeg
def inb (i : Int32) (n : Nat) : Bool := decide (0 ≤ i.toInt ∧ i.toInt < n)
theorem inb_in {i : Int32} {n : Nat} (h : inb i n = true) : vp_in i n := vp_in_iff.mpr (of_decide_eq_true h)
def mup (m : Mem) (k j : Nat) (x : Int32) : Mem := fun a b => if a = k then (if b = j then x else m a b) else m a b
def mrw (m : Mem) (k : Nat) (f : Nat → Int32) : Mem := fun a => if a = k then f else m a
theorem mup_k (m : Mem) (k j : Nat) (x : Int32) : mup m k j x k = upd (m k) j x := by
  funext b; simp [mup, upd]
theorem mup_o (m : Mem) (k j : Nat) (x : Int32) {k' : Nat} (h : k' ≠ k) : mup m k j x k' = m k' := by
  funext b; simp [mup, h]
theorem mrw_k (m : Mem) (k : Nat) (f : Nat → Int32) : mrw m k f k = f := by simp [mrw]
theorem mrw_o (m : Mem) (k : Nat) (f : Nat → Int32) {k' : Nat} (h : k' ≠ k) : mrw m k f k' = m k' := by simp [mrw, h]
def kndT : List Nat := [7, 10, 12, 1, 10, 10, 11, 10, 10, 10, 11, 11, 10, 0, 10, 10, 99, 99, 99, 99, 5, 6, 10, 10, 6, 10, 10, 10, 10, 10, 10, 10, 11, 10, 10, 10, 99, 99, 99, 99, 4, 10, 10, 10, 10, 10, 10, 10, 10, 10, 99, 99, 99, 99, 99, 99, 99, 99, 99, 99, 2, 10, 10, 10, 10, 10, 99, 99, 99, 99, 10]
def alenT : List Nat := [0, 8, 24, 0, 25600, 25600, 1024, 1024, 25600, 1024, 1024, 1024, 1024, 0, 160, 160, 0, 0, 0, 0, 0, 0, 32, 256, 0, 32, 256, 200, 200, 1600, 200, 200, 200, 200, 200, 32, 0, 0, 0, 0, 0, 8, 160, 160, 160, 160, 288, 2592, 288, 288, 0, 0, 0, 0, 0, 0, 0, 0, 0, 0, 0, 240, 30, 30, 30, 6, 0, 0, 0, 0, 8]
def isb (x : Int32) : Bool := x == 0 || x == 1
theorem isb_or {x : Int32} (h : isb x = true) : x = 0 ∨ x = 1 := by simpa [isb] using h
theorem isb_narrow {x : Int32} (h : isb x = true) : narrow .boolean (.int x) = .int x := by rcases isb_or h with rfl | rfl <;> rfl
theorem isb_nar {x : Int32} (h : isb x = true) : vp_nar .boolean x = x := by rcases isb_or h with rfl | rfl <;> rfl
theorem isb_fits {x : Int32} (h : isb x = true) : fits .boolean (.int x) = true := by rcases isb_or h with rfl | rfl <;> rfl
def knd (k : Nat) : Nat := if 200 ≤ k then (if k < 300 then (if k % 4 = 0 then 3 else if k % 4 = 1 then 0 else 10) else if k = 2147483649 then 14 else 99) else kndT.getD k 99
def alen (k : Nat) : Nat := if 200 ≤ k then 160 else alenT.getD k 0
/-- the fields of object k of class c, its whole numbers in f -/
def flds (G : GT) (c k : Nat) (f : Nat → Int32) : List Value := match c with
  | 0 => [.ref (G.2.2.2 (k + 1)), .ref (G.2.2.2 (k + 2)), .int (f 2)]
  | 1 => [.ref (G.2.2.2 (k + 1)), .ref (G.2.2.2 (k + 2)), .ref (G.2.2.2 (k + 3)), .int (f 3), .int (f 4), .int (f 5), .ref (G.2.2.2 (k + 4)), .ref (G.2.2.2 (k + 5)), .ref (G.2.2.2 (k + 6)), .ref (G.2.2.2 (k + 7)), .ref (G.2.2.2 (k + 8)), .ref (G.2.2.2 (k + 9)), .ref (G.2.2.2 (k + 10))]
  | 2 => [.ref (G.2.2.2 (k + 1)), .ref (G.2.2.2 (k + 2)), .ref (G.2.2.2 (k + 3)), .ref (G.2.2.2 (k + 4)), .ref (G.2.2.2 (k + 5)), .int (f 5)]
  | 3 => [.ref (G.2.2.2 (k + 1)), .int (f 1), .int (f 2)]
  | 4 => [.ref (G.2.2.2 (k + 1)), .int (f 1), .ref (G.2.2.2 (f 2).toNatClampNeg), .int (f 3), .int (f 4), .ref (G.2.2.2 (k + 2)), .ref (G.2.2.2 (k + 3)), .ref (G.2.2.2 (k + 4)), .ref (G.2.2.2 (k + 5)), .ref (G.2.2.2 (k + 6)), .ref (G.2.2.2 (k + 7)), .ref (G.2.2.2 (k + 8)), .ref (G.2.2.2 (k + 9)), .int (f 13)]
  | 5 => [.ref (G.2.2.2 (k + 1)), .ref (G.2.2.2 (k + 4)), .int (f 2), .ref (G.2.2.2 (k + 7)), .ref (G.2.2.2 (k + 8)), .ref (G.2.2.2 (k + 9)), .ref (G.2.2.2 (k + 10)), .ref (G.2.2.2 (k + 11)), .int (f 8), .ref (G.2.2.2 (k + 12)), .ref (G.2.2.2 (f 10).toNatClampNeg), .ref (G.2.2.2 (f 11).toNatClampNeg), .ref (G.2.2.2 (k + 15))]
  | 6 => [.ref (G.2.2.2 (k + 1)), .ref (G.2.2.2 (k + 2)), .int (f 2), .int (f 3)]
  | _ => [.ref (G.2.2.2 (k + 1)), .int (f 1), .ref (G.2.2.2 (k + 2)), .int (f 3), .ref (G.2.2.2 (k + 3)), .ref (G.2.2.2 (k + 20)), .ref (G.2.2.2 (k + 40)), .ref (G.2.2.2 (k + 60))]
def cell (G : GT) (k : Nat) (f : Nat → Int32) : va_E :=
  if knd k = 10 then .inl (G.2.2.1 0, alen k, .inl f)
  else if knd k = 11 then .inl (G.2.2.1 1, alen k, .inl f)
  else if knd k = 12 then .inl (G.2.2.1 2, alen k, .inr (.inr (.inr (.inr (fun i => some (G.2.2.2 (200 + 4 * i)))))))
  else if knd k = 14 then .inl (G.2.2.1 0, 8, .inl f)
  else .inr (knd k, flds G (knd k) k f)
theorem cell_i (G : GT) {k : Nat} (h : knd k = 10) (f : Nat → Int32) : cell G k f = .inl (G.2.2.1 0, alen k, .inl f) := by simp [cell, h]
theorem cell_z (G : GT) {k : Nat} (h : knd k = 11) (f : Nat → Int32) : cell G k f = .inl (G.2.2.1 1, alen k, .inl f) := by simp [cell, h]
theorem cell_q (G : GT) {k : Nat} (h : knd k = 12) (f : Nat → Int32) : cell G k f = .inl (G.2.2.1 2, alen k, .inr (.inr (.inr (.inr (fun i => some (G.2.2.2 (200 + 4 * i))))))) := by simp [cell, h]
theorem cell_l (G : GT) {k : Nat} (h : knd k = 14) (f : Nat → Int32) : cell G k f = .inl (G.2.2.1 0, 8, .inl f) := by simp [cell, h]
theorem cell_o (G : GT) {k c : Nat} (h : knd k = c) (hc : c < 10) (f : Nat → Int32) : cell G k f = .inr (c, flds G c k f) := by
  subst h
  have h1 : ¬ knd k = 10 := by omega
  have h2 : ¬ knd k = 11 := by omega
  have h3 : ¬ knd k = 12 := by omega
  have h4 : ¬ knd k = 14 := by omega
  simp only [cell, h1, h2, h3, h4, if_false]
/-- whether the world has told's cell, 2147483649 -/
def flg (G : GT) : Bool := decide (G.2.2.2 2147483651 = 1)
def lvB (b : Bool) (k : Nat) : Prop := knd k ≠ 99 ∧ (knd k = 14 → b = true)
abbrev live (G : GT) (k : Nat) : Prop := lvB (flg G) k
theorem knd_14 {k : Nat} (h : knd k = 14) : k = 2147483649 := by
  rcases Nat.lt_or_ge k 200 with q | q
  · exact absurd h ((show ∀ k, k < 200 → ¬ knd k = 14 by decide +kernel) k q)
  · unfold knd at h
    rw [if_pos q] at h
    by_cases h3 : k < 300
    · rw [if_pos h3] at h
      split at h
      · omega
      · split at h <;> omega
    · rw [if_neg h3] at h
      split at h
      · assumption
      · omega
theorem knd_up {k : Nat} (h : knd k ≠ 99) (h2 : 300 ≤ k) : k = 2147483649 := by
  unfold knd at h
  rw [if_pos (by omega), if_neg (by omega)] at h
  split at h
  · assumption
  · exact absurd rfl h
def q_ids (b : Bool) : List Nat := (List.range 300).filter (fun k => knd k != 99) ++ (if b = true then [2147483649] else [])
theorem q_ids_nd (b : Bool) : (q_ids b).Nodup := by
  refine List.nodup_append.mpr ⟨List.Pairwise.filter _ List.nodup_range, by cases b <;> simp, ?_⟩
  intro a ha c hc e
  have h1 := List.mem_range.mp (List.mem_filter.mp ha).1
  cases b with
  | false => simp at hc
  | true =>
    have : c = 2147483649 := by simpa using hc
    omega
theorem lv_lo {b : Bool} {k : Nat} (h : knd k < 14) : lvB b k := ⟨by omega, fun h2 => by omega⟩
theorem q_ids_mem {b : Bool} {k : Nat} (h : lvB b k) : k ∈ q_ids b := by
  rcases Nat.lt_or_ge k 300 with q | q
  · exact List.mem_append_left _ (List.mem_filter.mpr ⟨List.mem_range.mpr q, by simpa using h.1⟩)
  · have e := knd_up h.1 q
    subst e
    have hb : b = true := h.2 (by decide +kernel)
    subst hb
    exact List.mem_append_right _ (by simp)
theorem q_ids_knd {b : Bool} {k : Nat} (h : k ∈ q_ids b) : lvB b k := by
  rcases List.mem_append.mp h with h | h
  · have h1 := List.mem_range.mp (List.mem_filter.mp h).1
    have h2 : knd k ≠ 99 := by simpa using (List.mem_filter.mp h).2
    exact ⟨h2, fun h3 => by have := knd_14 h3; omega⟩
  · cases b with
    | false => simp at h
    | true =>
      have : k = 2147483649 := by simpa using h
      subst this
      exact ⟨by decide +kernel, fun _ => rfl⟩
def wsOf (G : GT) (m : Mem) : va_W := (q_ids (flg G)).map (fun k => (G.2.2.2 k, cell G k (m k)))
theorem ws_atB {b : Bool} {k : Nat} (h : lvB b k) : ∃ i : Nat, (q_ids b)[i]? = some k := List.getElem?_of_mem (q_ids_mem h)
theorem ws_at {b : Bool} {k : Nat} (h : knd k < 14) : ∃ i : Nat, (q_ids b)[i]? = some k := ws_atB (lv_lo h)
theorem ws_get {i k : Nat} {G : GT} (h : (q_ids (flg G))[i]? = some k) (m : Mem) : (wsOf G m)[i]? = some (G.2.2.2 k, cell G k (m k)) := by
  simp [wsOf, h]
theorem ws_inv {i : Nat} {G : GT} {m : Mem} {p : Nat × va_E} (h : (wsOf G m)[i]? = some p) : ∃ k, (q_ids (flg G))[i]? = some k ∧ live G k ∧ p = (G.2.2.2 k, cell G k (m k)) := by
  simp only [wsOf, List.getElem?_map, Option.map_eq_some_iff] at h
  obtain ⟨k, h1, h2⟩ := h
  exact ⟨k, h1, q_ids_knd (List.mem_of_getElem? h1), h2.symm⟩
theorem ids_one {b : Bool} {i j k : Nat} (hi : (q_ids b)[i]? = some k) (hj : (q_ids b)[j]? = some k) : i = j :=
  (List.getElem?_inj (List.getElem?_eq_some_iff.mp hi).1 (q_ids_nd b)).mp (hi.trans hj.symm)
theorem ws_set {i k : Nat} {G : GT} (h : (q_ids (flg G))[i]? = some k) {m m' : Mem} (hm : ∀ k', k' ≠ k → m' k' = m k') : (wsOf G m).set i (G.2.2.2 k, cell G k (m' k)) = wsOf G m' := by
  apply List.ext_getElem?
  intro j
  rw [List.getElem?_set]
  by_cases hj : i = j
  · subst hj
    have hlt : i < (wsOf G m).length := (List.getElem?_eq_some_iff.mp (ws_get h m)).1
    rw [if_pos rfl, if_pos hlt, ws_get h m']
  · rw [if_neg hj]
    simp only [wsOf, List.getElem?_map]
    cases hk : (q_ids (flg G))[j]? with
    | none => rfl
    | some k' =>
      have hne : k' ≠ k := fun e => hj (ids_one h (by rw [hk, e]))
      simp [hm k' hne]
def adInj (G : GT) : Prop := ∀ k k', live G k → live G k' → G.2.2.2 k = G.2.2.2 k' → k = k'
theorem ws_D {G : GT} (hI : adInj G) {A : Nat → Prop} (hA : ∀ k, live G k → A (G.2.2.2 k)) (m : Mem) : va_D A (wsOf G m) := by
  refine ⟨fun i j p q hi hj he => ?_, fun i p hi => ?_⟩
  · obtain ⟨k, h1, h2, rfl⟩ := ws_inv hi
    obtain ⟨k', h3, h4, rfl⟩ := ws_inv hj
    have e : k = k' := hI k k' h2 h4 he
    subst e
    exact ids_one h1 h3
  · obtain ⟨k, -, h2, rfl⟩ := ws_inv hi
    exact hA k h2
def tysOf (G : GT) : List (ClassId × FieldType) := [(G.2.2.1 0, .int), (G.2.2.1 1, .boolean), (G.2.2.1 2, .object RX3)]
def q_nest : List (String × Nat × MethodName × String) := [("AffixWorks", 23, yX3_init, "AffixWorks"), ("AffixWorks", 29, yX1_init, "AffixWorks"), ("AffixWorks", 36, yX5_init, "AffixWorks"), ("AffixWorks", 43, yX4_init, "AffixWorks"), ("AffixWorks", 50, yX2_init, "AffixWorks"), ("AffixWorks$Arcs", 38, yX7_packedArc, "AffixWorks"), ("AffixWorks$Draft", 52, yX0_init, "AffixWorks"), ("AffixWorks$Draft", 63, yX7_packedArc, "AffixWorks"), ("AffixWorks$Draft", 74, yX7_fromOf, "AffixWorks"), ("AffixWorks$Draft", 78, yX7_upperOf, "AffixWorks"), ("AffixWorks$Draft", 81, yX7_lowerOf, "AffixWorks"), ("AffixWorks$Draft", 85, yX7_toOf, "AffixWorks"), ("AffixWorks$Draft", 95, yX7_holds, "AffixWorks"), ("AffixWorks$Machine", 11, yX0_init, "AffixWorks"), ("AffixWorks$Machine", 32, yX7_upperOf, "AffixWorks"), ("AffixWorks$Machine", 36, yX7_lowerOf, "AffixWorks"), ("AffixWorks$Machine", 42, yX7_fromOf, "AffixWorks"), ("AffixWorks$Machine", 45, yX7_holds, "AffixWorks"), ("AffixWorks$Machine", 49, yX7_toOf, "AffixWorks"), ("AffixWorks$Search", 100, yX7_toOf, "AffixWorks"), ("AffixWorks$Search", 113, yX7_holds, "AffixWorks"), ("AffixWorks$Search", 21, yX3_init, "AffixWorks"), ("AffixWorks$Search", 90, yX7_fromOf, "AffixWorks"), ("AffixWorks$Search", 94, yX7_lowerOf, "AffixWorks"), ("AffixWorks$Search", 97, yX7_upperOf, "AffixWorks"), ("AffixWorks$SetPairs", 11, yX6_init, "AffixWorks"), ("AffixWorks$Steps", 45, yX7_upperOf, "AffixWorks"), ("AffixWorks$Steps", 49, yX7_fromOf, "AffixWorks"), ("AffixWorks$Steps", 52, yX7_toOf, "AffixWorks"), ("AffixWorks$Steps", 55, yX7_holds, "AffixWorks")]
def q_nestw (q : String × Nat × MethodName × String) : Cond := .methodLinkNest q.1 q.2.1 q.2.2.1 q.2.2.2
def GOK (G : GT) (s : State) : Prop :=
  va_K (G.1, G.2.1) vwCl (tysOf G) s ∧ (∀ q ∈ q_nest, va_Nw (q_nestw q) s) ∧ (∀ q ∈ vwCl, ∀ w ∈ u_ws q.1 q.2.1 q.2.2, va_Nw w s) ∧ adInj G
theorem u_on {C : String} {T : u_T} {N : Nat} {w : Cond} (h : w ∈ u_ws C T N) : w.onTables = true := by
  obtain ⟨k, -, rfl⟩ := List.mem_map.mp h
  unfold u_lay
  split <;> rfl
theorem u_good {C : String} {T : u_T} {N : Nat} {w : Cond} (h : w ∈ u_ws C T N) : (w.onTables && w.keeps) = true := by
  obtain ⟨k, -, rfl⟩ := List.mem_map.mp h
  unfold u_lay
  split <;> rfl
theorem GOK.moved {G : GT} {s U : State} (h : GOK G s) (hW : s.WarmedH U.vm) : GOK G U :=
  ⟨va_K.moved hW.alike h.1, fun q hq => va_Nw.warmM hW (h.2.1 q hq), fun q hq w hw => word_at hW (Or.inl (u_good hw)) (h.2.2.1 q hq w hw), h.2.2.2⟩
theorem GOK.calling {G : GT} {U : State} (h : GOK G U) (g : JFrame) (mk : MethodId) (a : Array Value) : GOK G (U.calling g mk a) :=
  ⟨va_K.moved (u := U) (U := U.calling g mk a) (Vm.Alike.refl U.vm) h.1, fun q hq => va_Nw.same rfl rfl (h.2.1 q hq), fun q hq w hw => va_Nw.same (u := U) (U := U.calling g mk a) (u_on hw) rfl (h.2.2.1 q hq w hw), h.2.2.2⟩
/-- the cells of the world -/
def frC (G : GT) : Nat → Prop := fun q => ∃ k, live G k ∧ q = G.2.2.2 k
abbrev KT : Type := Program × Launch × Env × Room × State × MethodId × Array Value × List Frame × Method × Code × GT × (Nat → Prop) × (State → Prop)
/-- the machine from here: at pc with these locals and stack, in the world m -/
def AW : KT → Nat → Nat → List (Nat × AV) → List AV → Mem → Prop
  | (p, l, e, R, s, mm, args, below, meth, c, G, A, Z), n, pc, lv, st, m =>
    ∀ (H : Heap) (locs : List Loc) (ls : Array Slot), va_P (G.1, G.2.1) vwCl (wsOf G m) H → va_S A s.heap H locs → lv_has ls c.maxLocals (lv.map fun q => (q.1, toV G q.2)) → W p l e R s mm args below meth c H locs n (16 * n) Z (F0 mm pc ls (st.map (toV G)))
/-- what stands fixed in a method's walk -/
def KOK : KT → ByteArray → Nat → String → List Cond → Nat → Nat → Nat → Prop
  | (p, _, _, R, s, mm, args, _, meth, c, G, A, _), cc, nL, own, Ts, fr, N, lo =>
    p.tables.exec = Jvm.exec ∧ c.code = cc ∧ c.maxLocals = nL ∧ s.vm.findClass own = some mm.cls ∧ (∀ w ∈ Ts, w.before args s = true) ∧ GOK G s ∧ meth.locks = false ∧ (fr ≤ R.frames ∧ lo ≤ R.locals ∧ N ≤ R.cells ∧ 16 * N ≤ R.slots) ∧ ∀ k, live G k → A (G.2.2.2 k)
def QcP (G : GT) (r : Option Int32) (m' : Mem) : Array Value → State → Outcome → State → Prop := fun _ st oc t =>
  oc = .returned (r.map Value.int) ∧ va_P (G.1, G.2.1) vwCl (wsOf G m') t.heap ∧ va_F (frC G) st t
/-- the method's end is an ordinary return -/
def KRet : KT → Option FieldType → Option Int32 → Mem → Prop
  | (_, _, _, _, s, _, args, below, meth, _, G, A, Z), ret, r, m' =>
    meth.sig.returnType = ret ∧ A = frC G ∧ Z = MQ below (QcP G r m') args s 0 0 (frC G)
def PcW (G : GT) (as : List AV) (m : Mem) : Array Value → State → Prop := va_Pc (as.map (toV G)) (fun U => va_P (G.1, G.2.1) vwCl (wsOf G m) U.heap ∧ GOK G U)
theorem PcW_blind (G : GT) (as : List AV) (m : Mem) : FrameBlind (PcW G as m) := fun a U g mk h => ⟨h.1, h.2.1, h.2.2.calling g mk a⟩
/-- the contract: called with these arguments in the world m, the method returns r, in the world m' -/
def Tr (y : MethodName) (ws : List Cond) (fr lo : Nat) (as : List AV) (m : Mem) (r : Option Int32) (m' : Mem) : Prop :=
  ∀ (l : Launch) (G : GT), Met l y ws { frames := fr, cells := 0, slots := 0, locals := lo } (PcW G as m) (QcP G r m') 0 0 (frC G)
/-! the language of the programs -/
def gd {α : Type} (b : Bool) (o : Option α) : Option α := match b with
  | true => o
  | false => none
theorem gd_some {α : Type} {b : Bool} {o : Option α} {r : α} (h : gd b o = some r) : b = true ∧ o = some r := by
  cases b with
  | true => exact ⟨rfl, h⟩
  | false => cases h
def bnd {α β : Type} (e : α) (f : α → β) : β := f e
theorem bnd_some {α β : Type} {e : α} {f : α → Option β} {r : β} (h : bnd e f = some r) : ∃ x, e = x ∧ f x = some r := ⟨e, rfl, h⟩
def cal {α β : Type} (o : Option (α × Mem)) (f : α → Mem → Option β) : Option β := match o with
  | some (r, m) => f r m
  | none => none
theorem cal_some {α β : Type} {o : Option (α × Mem)} {f : α → Mem → Option β} {r : β} (h : cal o f = some r) : ∃ x m, o = some (x, m) ∧ f x m = some r := by
  cases o with
  | none => cases h
  | some q => exact ⟨q.1, q.2, rfl, h⟩
def calv {β : Type} (o : Option Mem) (f : Mem → Option β) : Option β := match o with
  | some m => f m
  | none => none
theorem calv_some {β : Type} {o : Option Mem} {f : Mem → Option β} {r : β} (h : calv o f = some r) : ∃ m, o = some m ∧ f m = some r := by
  cases o with
  | none => cases h
  | some q => exact ⟨q, rfl, h⟩
theorem if_t {α : Type} {c : Prop} [Decidable c] {a b : Option α} {r : α} (h : (if c then a else b) = some r) (hc : c) : a = some r := by rwa [if_pos hc] at h
theorem if_f {α : Type} {c : Prop} [Decidable c] {a b : Option α} {r : α} (h : (if c then a else b) = some r) (hc : ¬ c) : b = some r := by rwa [if_neg hc] at h
theorem so_inj {α β : Type} {a c : α} {b d : β} (h : some (a, b) = some (c, d)) : a = c ∧ b = d := by cases h; exact ⟨rfl, rfl⟩
abbrev q_shl (x y : Int32) : Int32 := x <<< (y &&& 31)
abbrev q_shr (x y : Int32) : Int32 := x >>> (y &&& 31)
abbrev q_ushr (x y : Int32) : Int32 := (x.toUInt32 >>> (y.toUInt32 &&& Int32.toUInt32 31)).toInt32
abbrev q_rem (x y : Int32) : Int32 := x - x / y * y
theorem knd_lo : ∀ k, k < 200 → (knd k = 0 → knd (k + 1) = 10 ∧ knd (k + 2) = 10 ∧ alen (k + 1) = 160 ∧ alen (k + 2) = 160) ∧ ¬ knd k = 3 ∧ (knd k = 6 → knd (k + 1) = 10 ∧ knd (k + 2) = 10 ∧ alen (k + 1) = 32 ∧ alen (k + 2) = 256) := by decide +kernel
theorem knd_hi {k : Nat} (h : 200 ≤ k) : knd k = if k < 300 then (if k % 4 = 0 then 3 else if k % 4 = 1 then 0 else 10) else if k = 2147483649 then 14 else 99 := by unfold knd; rw [if_pos h]
theorem knd_lt {k : Nat} (h : knd k < 14) : k < 300 := by
  rcases Nat.lt_or_ge k 300 with q | q
  · exact q
  · have e := knd_up (by omega) q
    subst e
    exact absurd h (by decide +kernel)
theorem kM1 {k : Nat} (h : knd k = 3) : knd (k + 1) = 0 := by
  rcases Nat.lt_or_ge k 200 with q | q
  · exact absurd h (knd_lo k q).2.1
  · rw [knd_hi q] at h
    rw [knd_hi (by omega)]
    by_cases h3 : k < 300
    · rw [if_pos h3] at h
      by_cases h4 : k % 4 = 0
      · rw [if_pos (by omega), if_neg (by omega), if_pos (by omega)]
      · rw [if_neg h4] at h; split at h <;> omega
    · rw [if_neg h3] at h; split at h <;> omega
theorem kA12 {k : Nat} (h : knd k = 0) : knd (k + 1) = 10 ∧ knd (k + 2) = 10 ∧ alen (k + 1) = 160 ∧ alen (k + 2) = 160 := by
  rcases Nat.lt_or_ge k 200 with q | q
  · exact (knd_lo k q).1 h
  · rw [knd_hi q] at h
    have e1 : k < 300 ∧ k % 4 = 1 := by
      by_cases h3 : k < 300
      · rw [if_pos h3] at h
        split at h
        · omega
        · split at h
          · exact ⟨h3, by assumption⟩
          · omega
      · rw [if_neg h3] at h; split at h <;> omega
    refine ⟨?_, ?_, ?_, ?_⟩
    · rw [knd_hi (by omega), if_pos (by omega), if_neg (by omega), if_neg (by omega)]
    · rw [knd_hi (by omega), if_pos (by omega), if_neg (by omega), if_neg (by omega)]
    · unfold alen; rw [if_pos (by omega)]
    · unfold alen; rw [if_pos (by omega)]
theorem kA1 {k : Nat} (h : knd k = 0) : knd (k + 1) = 10 := (kA12 h).1
theorem kA2 {k : Nat} (h : knd k = 0) : knd (k + 2) = 10 := (kA12 h).2.1
theorem kS12 {k : Nat} (h : knd k = 6) : knd (k + 1) = 10 ∧ knd (k + 2) = 10 ∧ alen (k + 1) = 32 ∧ alen (k + 2) = 256 := by
  rcases Nat.lt_or_ge k 200 with q | q
  · exact (knd_lo k q).2.2 h
  · rw [knd_hi q] at h
    repeat (first | omega | split at h)
theorem kS1 {k : Nat} (h : knd k = 6) : knd (k + 1) = 10 := (kS12 h).1
theorem kS2 {k : Nat} (h : knd k = 6) : knd (k + 2) = 10 := (kS12 h).2.1
theorem kMi {i : Int32} (h : inb i (alen 2) = true) : knd (200 + 4 * ix i) = 3 := by
  have h1 := inb_in h
  have h2 : ix i < 24 := Nat.not_le.mp fun q => h1 (Or.inr q)
  rw [knd_hi (by omega), if_pos (by omega), if_pos (by omega)]
/-! rows -/
section ROWS
variable {K : KT} {cc : ByteArray} {nL : Nat} {own : String} {Ts : List Cond} {fr N lo n pc : Nat} {lv : List (Nat × AV)} {st : List AV} {m : Mem}
theorem aw_nm {x y : Int32} (h : x = y) (k : AW K n pc lv (q_i y :: st) m) : AW K n pc lv (q_i x :: st) m := by subst h; exact k
theorem aw_nr {x y : Nat} (h : x = y) (k : AW K n pc lv (q_r y :: st) m) : AW K n pc lv (q_r x :: st) m := by subst h; exact k
theorem aw_mm {m' : Mem} (h : m = m') (k : AW K n pc lv st m') : AW K n pc lv st m := by subst h; exact k
theorem aw_sub (ks : List Nat) {lv' : List (Nat × AV)} (h : ks.filterMap (fun k => lv[k]?) = lv') (k : AW K n pc lv' st m) : AW K n pc lv st m := by
  obtain ⟨p, l, e, R, s, mm, args, below, meth, c, G, A, Z⟩ := K
  intro H locs ls hP hS hl
  refine k H locs ls hP hS ⟨hl.1, hl.2.1, fun q hq => ?_⟩
  subst h
  obtain ⟨q0, h0, rfl⟩ := List.mem_map.mp hq
  obtain ⟨i, -, hi⟩ := List.mem_filterMap.mp h0
  exact hl.2.2 (q0.1, toV G q0.2) (List.mem_map.mpr ⟨q0, List.mem_of_getElem? hi, rfl⟩)
theorem lvm_at {G : GT} {ls : Array Slot} {lv : List (Nat × AV)} {nL k i : Nat} {a : AV} (hl : lv_has ls nL (lv.map fun q => (q.1, toV G q.2))) (hk : lv[k]? = some (i, a)) : ls[i]? = some (.val (toV G a)) :=
  hl.2.2 (i, toV G a) (List.mem_map.mpr ⟨(i, a), List.mem_of_getElem? hk, rfl⟩)
theorem lvm_set {G : GT} {ls : Array Slot} {nL i : Nat} {lv : List (Nat × AV)} {a : AV} (hl : lv_has ls nL (((i, a) :: lv.filter (fun q => !(q.1 == i) && !(q.1 + 1 == i && qcat q.2 == 2))).map fun q => (q.1, toV G q.2))) :
    lv_has ls nL ((i, toV G a) :: (lv.map fun q => (q.1, toV G q.2)).filter (fun q => !(q.1 == i) && !(q.1 + 1 == i && q.2.category == 2))) := by
  have e : (lv.map fun q => (q.1, toV G q.2)).filter (fun q => !(q.1 == i) && !(q.1 + 1 == i && q.2.category == 2)) = (lv.filter (fun q => !(q.1 == i) && !(q.1 + 1 == i && qcat q.2 == 2))).map fun q => (q.1, toV G q.2) := by
    rw [List.filter_map]
    congr 1
    apply List.filter_congr
    intro q _
    simp only [Function.comp, qcat_eq]
  rw [e]
  exact hl
theorem lvm_get {G : GT} {ls : Array Slot} {nL i : Nat} {lv : List (Nat × AV)} {a : AV} (hl : lv_has ls nL ((i, toV G a) :: (lv.map fun q => (q.1, toV G q.2)).filter (fun q => !(q.1 == i) && !(q.1 + 1 == i && q.2.category == 2)))) :
    lv_has ls nL (((i, a) :: lv.filter (fun q => !(q.1 == i) && !(q.1 + 1 == i && qcat q.2 == 2))).map fun q => (q.1, toV G q.2)) := by
  have e : (lv.map fun q => (q.1, toV G q.2)).filter (fun q => !(q.1 == i) && !(q.1 + 1 == i && q.2.category == 2)) = (lv.filter (fun q => !(q.1 == i) && !(q.1 + 1 == i && qcat q.2 == 2))).map fun q => (q.1, toV G q.2) := by
    rw [List.filter_map]
    congr 1
    apply List.filter_congr
    intro q _
    simp only [Function.comp, qcat_eq]
  rw [e] at hl
  exact hl
theorem aw_iadd (hK : KOK K cc nL own Ts fr N lo) {x y : Int32} (d : decode cc pc = .ok (.iadd, 1)) (k : AW K n (pc + 1) lv (q_i (x + y) :: st) m) : AW K n pc lv (q_i y :: q_i x :: st) m := by
  obtain ⟨p, l, e, R, s, mm, args, below, meth, c, G, A, Z⟩ := K
  intro H locs ls hP hS hl
  exact lv_iadd hK.1 hK.2.1 d (k H locs ls hP hS hl)
theorem aw_isub (hK : KOK K cc nL own Ts fr N lo) {x y : Int32} (d : decode cc pc = .ok (.isub, 1)) (k : AW K n (pc + 1) lv (q_i (x - y) :: st) m) : AW K n pc lv (q_i y :: q_i x :: st) m := by
  obtain ⟨p, l, e, R, s, mm, args, below, meth, c, G, A, Z⟩ := K
  intro H locs ls hP hS hl
  exact lv_isub hK.1 hK.2.1 d (k H locs ls hP hS hl)
theorem aw_imul (hK : KOK K cc nL own Ts fr N lo) {x y : Int32} (d : decode cc pc = .ok (.imul, 1)) (k : AW K n (pc + 1) lv (q_i (x * y) :: st) m) : AW K n pc lv (q_i y :: q_i x :: st) m := by
  obtain ⟨p, l, e, R, s, mm, args, below, meth, c, G, A, Z⟩ := K
  intro H locs ls hP hS hl
  exact lv_imul hK.1 hK.2.1 d (k H locs ls hP hS hl)
theorem aw_iand (hK : KOK K cc nL own Ts fr N lo) {x y : Int32} (d : decode cc pc = .ok (.iand, 1)) (k : AW K n (pc + 1) lv (q_i (x &&& y) :: st) m) : AW K n pc lv (q_i y :: q_i x :: st) m := by
  obtain ⟨p, l, e, R, s, mm, args, below, meth, c, G, A, Z⟩ := K
  intro H locs ls hP hS hl
  exact lv_iand hK.1 hK.2.1 d (k H locs ls hP hS hl)
theorem aw_ior (hK : KOK K cc nL own Ts fr N lo) {x y : Int32} (d : decode cc pc = .ok (.ior, 1)) (k : AW K n (pc + 1) lv (q_i (x ||| y) :: st) m) : AW K n pc lv (q_i y :: q_i x :: st) m := by
  obtain ⟨p, l, e, R, s, mm, args, below, meth, c, G, A, Z⟩ := K
  intro H locs ls hP hS hl
  exact lv_ior hK.1 hK.2.1 d (k H locs ls hP hS hl)
theorem aw_ixor (hK : KOK K cc nL own Ts fr N lo) {x y : Int32} (d : decode cc pc = .ok (.ixor, 1)) (k : AW K n (pc + 1) lv (q_i (x ^^^ y) :: st) m) : AW K n pc lv (q_i y :: q_i x :: st) m := by
  obtain ⟨p, l, e, R, s, mm, args, below, meth, c, G, A, Z⟩ := K
  intro H locs ls hP hS hl
  exact lv_ixor hK.1 hK.2.1 d (k H locs ls hP hS hl)
theorem aw_ishl (hK : KOK K cc nL own Ts fr N lo) {x y : Int32} (d : decode cc pc = .ok (.ishl, 1)) (k : AW K n (pc + 1) lv (q_i (q_shl x y) :: st) m) : AW K n pc lv (q_i y :: q_i x :: st) m := by
  obtain ⟨p, l, e, R, s, mm, args, below, meth, c, G, A, Z⟩ := K
  intro H locs ls hP hS hl
  exact lv_ishl hK.1 hK.2.1 d (k H locs ls hP hS hl)
theorem aw_ishr (hK : KOK K cc nL own Ts fr N lo) {x y : Int32} (d : decode cc pc = .ok (.ishr, 1)) (k : AW K n (pc + 1) lv (q_i (q_shr x y) :: st) m) : AW K n pc lv (q_i y :: q_i x :: st) m := by
  obtain ⟨p, l, e, R, s, mm, args, below, meth, c, G, A, Z⟩ := K
  intro H locs ls hP hS hl
  exact lv_ishr hK.1 hK.2.1 d (k H locs ls hP hS hl)
theorem aw_iushr (hK : KOK K cc nL own Ts fr N lo) {x y : Int32} (d : decode cc pc = .ok (.iushr, 1)) (k : AW K n (pc + 1) lv (q_i (q_ushr x y) :: st) m) : AW K n pc lv (q_i y :: q_i x :: st) m := by
  obtain ⟨p, l, e, R, s, mm, args, below, meth, c, G, A, Z⟩ := K
  intro H locs ls hP hS hl
  exact lv_iushr hK.1 hK.2.1 d rfl (k H locs ls hP hS hl)
theorem aw_idiv (hK : KOK K cc nL own Ts fr N lo) {x y : Int32} (hy : ¬ y = 0) (d : decode cc pc = .ok (.idiv, 1)) (k : AW K n (pc + 1) lv (q_i (x / y) :: st) m) : AW K n pc lv (q_i y :: q_i x :: st) m := by
  obtain ⟨p, l, e, R, s, mm, args, below, meth, c, G, A, Z⟩ := K
  intro H locs ls hP hS hl
  exact lv_idiv hK.1 hK.2.1 d hy (k H locs ls hP hS hl)
theorem aw_irem (hK : KOK K cc nL own Ts fr N lo) {x y : Int32} (hy : ¬ y = 0) (d : decode cc pc = .ok (.irem, 1)) (k : AW K n (pc + 1) lv (q_i (q_rem x y) :: st) m) : AW K n pc lv (q_i y :: q_i x :: st) m := by
  obtain ⟨p, l, e, R, s, mm, args, below, meth, c, G, A, Z⟩ := K
  intro H locs ls hP hS hl
  exact lv_irem hK.1 hK.2.1 d hy (k H locs ls hP hS hl)
theorem aw_iconst (hK : KOK K cc nL own Ts fr N lo) {z : Int} (v : Int32) (hv : Int32.ofInt z = v) (d : decode cc pc = .ok (.iconst z, 1)) (k : AW K n (pc + 1) lv (q_i v :: st) m) : AW K n pc lv (st) m := by
  obtain ⟨p, l, e, R, s, mm, args, below, meth, c, G, A, Z⟩ := K
  intro H locs ls hP hS hl
  exact lv_iconst hK.1 hK.2.1 d hv (k H locs ls hP hS hl)
theorem aw_bipush (hK : KOK K cc nL own Ts fr N lo) {z : Int} (v : Int32) (hv : (Int8.ofInt z).toInt32 = v) (d : decode cc pc = .ok (.bipush z, 2)) (k : AW K n (pc + 2) lv (q_i v :: st) m) : AW K n pc lv (st) m := by
  obtain ⟨p, l, e, R, s, mm, args, below, meth, c, G, A, Z⟩ := K
  intro H locs ls hP hS hl
  exact lv_bipush hK.1 hK.2.1 d hv (k H locs ls hP hS hl)
theorem aw_sipush (hK : KOK K cc nL own Ts fr N lo) {z : Int} (v : Int32) (hv : (Int16.ofInt z).toInt32 = v) (d : decode cc pc = .ok (.sipush z, 3)) (k : AW K n (pc + 3) lv (q_i v :: st) m) : AW K n pc lv (st) m := by
  obtain ⟨p, l, e, R, s, mm, args, below, meth, c, G, A, Z⟩ := K
  intro H locs ls hP hS hl
  exact lv_sipush hK.1 hK.2.1 d hv (k H locs ls hP hS hl)
theorem aw_ldc (hK : KOK K cc nL own Ts fr N lo) {idx : Nat} (v : Int32) (hv : Cond.constant own idx v ∈ Ts) (d : decode cc pc = .ok (.ldc idx, 2)) (k : AW K n (pc + 2) lv (q_i v :: st) m) : AW K n pc lv (st) m := by
  obtain ⟨p, l, e, R, s, mm, args, below, meth, c, G, A, Z⟩ := K
  intro H locs ls hP hS hl
  exact lv_ldc hK.1 hK.2.1 hK.2.2.2.1 (hK.2.2.2.2.1 _ hv) d (k H locs ls hP hS hl)
theorem aw_ldc_w (hK : KOK K cc nL own Ts fr N lo) {idx : Nat} (v : Int32) (hv : Cond.constant own idx v ∈ Ts) (d : decode cc pc = .ok (.ldc_w idx, 3)) (k : AW K n (pc + 3) lv (q_i v :: st) m) : AW K n pc lv (st) m := by
  obtain ⟨p, l, e, R, s, mm, args, below, meth, c, G, A, Z⟩ := K
  intro H locs ls hP hS hl
  exact lv_ldcw hK.1 hK.2.1 hK.2.2.2.1 (hK.2.2.2.2.1 _ hv) d (k H locs ls hP hS hl)
theorem aw_iload_n (hK : KOK K cc nL own Ts fr N lo) {kk : Fin 4} {x : Int32} (i : Nat) (hk : lv[i]? = some (kk.val, q_i x)) (d : decode cc pc = .ok (.iload_n kk, 1)) (k : AW K n (pc + 1) lv (q_i x :: st) m) : AW K n pc lv (st) m := by
  obtain ⟨p, l, e, R, s, mm, args, below, meth, c, G, A, Z⟩ := K
  intro H locs ls hP hS hl
  exact lv_iload_n hK.1 hK.2.1 d rfl (lvm_at hl hk) (k H locs ls hP hS hl)
theorem aw_iload (hK : KOK K cc nL own Ts fr N lo) {j : Nat} {x : Int32} (i : Nat) (hk : lv[i]? = some (j, q_i x)) (d : decode cc pc = .ok (.iload j, 2)) (k : AW K n (pc + 2) lv (q_i x :: st) m) : AW K n pc lv (st) m := by
  obtain ⟨p, l, e, R, s, mm, args, below, meth, c, G, A, Z⟩ := K
  intro H locs ls hP hS hl
  exact lv_iload hK.1 hK.2.1 d (lvm_at hl hk) (k H locs ls hP hS hl)
theorem aw_aload_n (hK : KOK K cc nL own Ts fr N lo) {kk : Fin 4} {x : Nat} (i : Nat) (hk : lv[i]? = some (kk.val, q_r x)) (d : decode cc pc = .ok (.aload_n kk, 1)) (k : AW K n (pc + 1) lv (q_r x :: st) m) : AW K n pc lv (st) m := by
  obtain ⟨p, l, e, R, s, mm, args, below, meth, c, G, A, Z⟩ := K
  intro H locs ls hP hS hl
  exact lv_aload_n hK.1 hK.2.1 d rfl (lvm_at hl hk) (k H locs ls hP hS hl)
theorem aw_aload (hK : KOK K cc nL own Ts fr N lo) {j : Nat} {x : Nat} (i : Nat) (hk : lv[i]? = some (j, q_r x)) (d : decode cc pc = .ok (.aload j, 2)) (k : AW K n (pc + 2) lv (q_r x :: st) m) : AW K n pc lv (st) m := by
  obtain ⟨p, l, e, R, s, mm, args, below, meth, c, G, A, Z⟩ := K
  intro H locs ls hP hS hl
  exact lv_aload hK.1 hK.2.1 d (lvm_at hl hk) (k H locs ls hP hS hl)
theorem aw_istore_n (hK : KOK K cc nL own Ts fr N lo) {kk : Fin 4} {x : Int32} (lv' : List (Nat × AV)) (hn : kk.val < nL) (h : (kk.val, q_i x) :: lv.filter (fun q => !(q.1 == kk.val) && !(q.1 + 1 == kk.val && qcat q.2 == 2)) = lv') (d : decode cc pc = .ok (.istore_n kk, 1)) (k : AW K n (pc + 1) lv' st m) : AW K n pc lv (q_i x :: st) m := by
  obtain ⟨p, l, e, R, s, mm, args, below, meth, c, G, A, Z⟩ := K
  intro H locs ls hP hS hl
  subst h
  exact lv_istore_n hK.1 hK.2.1 d rfl hl (by rw [hK.2.2.1]; exact hn) rfl (fun ls' hl' => k H locs ls' hP hS (lvm_get hl'))
theorem aw_istore (hK : KOK K cc nL own Ts fr N lo) {j : Nat} {x : Int32} (lv' : List (Nat × AV)) (hn : j < nL) (h : (j, q_i x) :: lv.filter (fun q => !(q.1 == j) && !(q.1 + 1 == j && qcat q.2 == 2)) = lv') (d : decode cc pc = .ok (.istore j, 2)) (k : AW K n (pc + 2) lv' st m) : AW K n pc lv (q_i x :: st) m := by
  obtain ⟨p, l, e, R, s, mm, args, below, meth, c, G, A, Z⟩ := K
  intro H locs ls hP hS hl
  subst h
  exact lv_istore hK.1 hK.2.1 d hl (by rw [hK.2.2.1]; exact hn) rfl (fun ls' hl' => k H locs ls' hP hS (lvm_get hl'))
theorem aw_astore_n (hK : KOK K cc nL own Ts fr N lo) {kk : Fin 4} {x : Nat} (lv' : List (Nat × AV)) (hn : kk.val < nL) (h : (kk.val, q_r x) :: lv.filter (fun q => !(q.1 == kk.val) && !(q.1 + 1 == kk.val && qcat q.2 == 2)) = lv') (d : decode cc pc = .ok (.astore_n kk, 1)) (k : AW K n (pc + 1) lv' st m) : AW K n pc lv (q_r x :: st) m := by
  obtain ⟨p, l, e, R, s, mm, args, below, meth, c, G, A, Z⟩ := K
  intro H locs ls hP hS hl
  subst h
  exact lv_astore_n hK.1 hK.2.1 d rfl hl (by rw [hK.2.2.1]; exact hn) rfl (fun ls' hl' => k H locs ls' hP hS (lvm_get hl'))
theorem aw_astore (hK : KOK K cc nL own Ts fr N lo) {j : Nat} {x : Nat} (lv' : List (Nat × AV)) (hn : j < nL) (h : (j, q_r x) :: lv.filter (fun q => !(q.1 == j) && !(q.1 + 1 == j && qcat q.2 == 2)) = lv') (d : decode cc pc = .ok (.astore j, 2)) (k : AW K n (pc + 2) lv' st m) : AW K n pc lv (q_r x :: st) m := by
  obtain ⟨p, l, e, R, s, mm, args, below, meth, c, G, A, Z⟩ := K
  intro H locs ls hP hS hl
  subst h
  exact lv_astore hK.1 hK.2.1 d hl (by rw [hK.2.2.1]; exact hn) rfl (fun ls' hl' => k H locs ls' hP hS (lvm_get hl'))
theorem aw_iinc (hK : KOK K cc nL own Ts fr N lo) {j : Nat} {z : Int} {x v cz : Int32} (i : Nat) (lv' : List (Nat × AV)) (hn : j < nL) (hk : lv[i]? = some (j, q_i x)) (hz : Int32.ofInt z = cz) (hv : x + cz = v) (h : (j, q_i v) :: lv.filter (fun q => !(q.1 == j) && !(q.1 + 1 == j && qcat q.2 == 2)) = lv') (d : decode cc pc = .ok (.iinc j z, 3)) (k : AW K n (pc + 3) lv' st m) : AW K n pc lv (st) m := by
  obtain ⟨p, l, e, R, s, mm, args, below, meth, c, G, A, Z⟩ := K
  intro H locs ls hP hS hl
  subst h
  subst hz
  have hk2 : (lv.map fun q => (q.1, toV G q.2))[i]? = some (j, Value.int x) := by rw [List.getElem?_map, hk]; rfl
  exact lv_iinc hK.1 hK.2.1 d hl hk2 hv (by rw [hK.2.2.1]; exact hn) rfl (fun ls' hl' => k H locs ls' hP hS (lvm_get (a := q_i v) hl'))
theorem aw_dup (hK : KOK K cc nL own Ts fr N lo) {a : AV} (ha : qcat a = 1) (d : decode cc pc = .ok (.dup, 1)) (k : AW K n (pc + 1) lv (a :: a :: st) m) : AW K n pc lv (a :: st) m := by
  obtain ⟨p, l, e, R, s, mm, args, below, meth, c, G, A, Z⟩ := K
  intro H locs ls hP hS hl
  exact lv_dup hK.1 hK.2.1 d (by rw [qcat_eq]; exact ha) (k H locs ls hP hS hl)
theorem aw_dup2 (hK : KOK K cc nL own Ts fr N lo) {a b : AV} (ha : qcat a = 1) (hb : qcat b = 1) (d : decode cc pc = .ok (.dup2, 1)) (k : AW K n (pc + 1) lv (a :: b :: a :: b :: st) m) : AW K n pc lv (a :: b :: st) m := by
  obtain ⟨p, l, e, R, s, mm, args, below, meth, c, G, A, Z⟩ := K
  intro H locs ls hP hS hl
  exact lv_dup2_11 hK.1 hK.2.1 d (by rw [qcat_eq]; exact ha) (by rw [qcat_eq]; exact hb) (k H locs ls hP hS hl)
theorem aw_pop (hK : KOK K cc nL own Ts fr N lo) {a : AV} (ha : qcat a = 1) (d : decode cc pc = .ok (.pop, 1)) (k : AW K n (pc + 1) lv st m) : AW K n pc lv (a :: st) m := by
  obtain ⟨p, l, e, R, s, mm, args, below, meth, c, G, A, Z⟩ := K
  intro H locs ls hP hS hl
  exact lv_pop hK.1 hK.2.1 d (by rw [qcat_eq]; exact ha) (k H locs ls hP hS hl)
theorem aw_goto (hK : KOK K cc nL own Ts fr N lo) {z : Int} (tgt : Nat) (ht : (pc : Int) + z = (tgt : Int)) (d : decode cc pc = .ok (.goto z, 3)) (k : AW K n tgt lv st m) : AW K n pc lv (st) m := by
  obtain ⟨p, l, e, R, s, mm, args, below, meth, c, G, A, Z⟩ := K
  intro H locs ls hP hS hl
  exact lv_goto hK.1 hK.2.1 d ht (k H locs ls hP hS hl)
theorem aw_icmp_eq (hK : KOK K cc nL own Ts fr N lo) {x y : Int32} {z : Int} (tgt : Nat) (ht : (pc : Int) + z = (tgt : Int)) (d : decode cc pc = .ok (.if_icmp .eq z, 3)) (kt : x = y → AW K n tgt lv st m) (kf : ¬ x = y → AW K n (pc + 3) lv st m) : AW K n pc lv (q_i y :: q_i x :: st) m := by
  obtain ⟨p, l, e, R, s, mm, args, below, meth, c, G, A, Z⟩ := K
  intro H locs ls hP hS hl
  exact lv_icmp_eq hK.1 hK.2.1 d ht (fun h => kt h H locs ls hP hS hl) (fun h => kf h H locs ls hP hS hl)
theorem aw_icmp_ne (hK : KOK K cc nL own Ts fr N lo) {x y : Int32} {z : Int} (tgt : Nat) (ht : (pc : Int) + z = (tgt : Int)) (d : decode cc pc = .ok (.if_icmp .ne z, 3)) (kt : ¬ x = y → AW K n tgt lv st m) (kf : x = y → AW K n (pc + 3) lv st m) : AW K n pc lv (q_i y :: q_i x :: st) m := by
  obtain ⟨p, l, e, R, s, mm, args, below, meth, c, G, A, Z⟩ := K
  intro H locs ls hP hS hl
  exact lv_icmp_ne hK.1 hK.2.1 d ht (fun h => kt h H locs ls hP hS hl) (fun h => kf h H locs ls hP hS hl)
theorem aw_icmp_lt (hK : KOK K cc nL own Ts fr N lo) {x y : Int32} {z : Int} (tgt : Nat) (ht : (pc : Int) + z = (tgt : Int)) (d : decode cc pc = .ok (.if_icmp .lt z, 3)) (kt : x < y → AW K n tgt lv st m) (kf : ¬ x < y → AW K n (pc + 3) lv st m) : AW K n pc lv (q_i y :: q_i x :: st) m := by
  obtain ⟨p, l, e, R, s, mm, args, below, meth, c, G, A, Z⟩ := K
  intro H locs ls hP hS hl
  exact lv_icmp_lt hK.1 hK.2.1 d ht (fun h => kt h H locs ls hP hS hl) (fun h => kf h H locs ls hP hS hl)
theorem aw_icmp_ge (hK : KOK K cc nL own Ts fr N lo) {x y : Int32} {z : Int} (tgt : Nat) (ht : (pc : Int) + z = (tgt : Int)) (d : decode cc pc = .ok (.if_icmp .ge z, 3)) (kt : y ≤ x → AW K n tgt lv st m) (kf : ¬ y ≤ x → AW K n (pc + 3) lv st m) : AW K n pc lv (q_i y :: q_i x :: st) m := by
  obtain ⟨p, l, e, R, s, mm, args, below, meth, c, G, A, Z⟩ := K
  intro H locs ls hP hS hl
  exact lv_icmp_ge hK.1 hK.2.1 d ht (fun h => kt h H locs ls hP hS hl) (fun h => kf h H locs ls hP hS hl)
theorem aw_icmp_gt (hK : KOK K cc nL own Ts fr N lo) {x y : Int32} {z : Int} (tgt : Nat) (ht : (pc : Int) + z = (tgt : Int)) (d : decode cc pc = .ok (.if_icmp .gt z, 3)) (kt : y < x → AW K n tgt lv st m) (kf : ¬ y < x → AW K n (pc + 3) lv st m) : AW K n pc lv (q_i y :: q_i x :: st) m := by
  obtain ⟨p, l, e, R, s, mm, args, below, meth, c, G, A, Z⟩ := K
  intro H locs ls hP hS hl
  exact lv_icmp_gt hK.1 hK.2.1 d ht (fun h => kt h H locs ls hP hS hl) (fun h => kf h H locs ls hP hS hl)
theorem aw_icmp_le (hK : KOK K cc nL own Ts fr N lo) {x y : Int32} {z : Int} (tgt : Nat) (ht : (pc : Int) + z = (tgt : Int)) (d : decode cc pc = .ok (.if_icmp .le z, 3)) (kt : x ≤ y → AW K n tgt lv st m) (kf : ¬ x ≤ y → AW K n (pc + 3) lv st m) : AW K n pc lv (q_i y :: q_i x :: st) m := by
  obtain ⟨p, l, e, R, s, mm, args, below, meth, c, G, A, Z⟩ := K
  intro H locs ls hP hS hl
  exact lv_icmp_le hK.1 hK.2.1 d ht (fun h => kt h H locs ls hP hS hl) (fun h => kf h H locs ls hP hS hl)
theorem aw_if_eq (hK : KOK K cc nL own Ts fr N lo) {x : Int32} {z : Int} (tgt : Nat) (ht : (pc : Int) + z = (tgt : Int)) (d : decode cc pc = .ok (.ifCond .eq z, 3)) (kt : x = 0 → AW K n tgt lv st m) (kf : ¬ x = 0 → AW K n (pc + 3) lv st m) : AW K n pc lv (q_i x :: st) m := by
  obtain ⟨p, l, e, R, s, mm, args, below, meth, c, G, A, Z⟩ := K
  intro H locs ls hP hS hl
  exact lv_if_eq hK.1 hK.2.1 d ht (fun h => kt h H locs ls hP hS hl) (fun h => kf h H locs ls hP hS hl)
theorem aw_if_ne (hK : KOK K cc nL own Ts fr N lo) {x : Int32} {z : Int} (tgt : Nat) (ht : (pc : Int) + z = (tgt : Int)) (d : decode cc pc = .ok (.ifCond .ne z, 3)) (kt : ¬ x = 0 → AW K n tgt lv st m) (kf : x = 0 → AW K n (pc + 3) lv st m) : AW K n pc lv (q_i x :: st) m := by
  obtain ⟨p, l, e, R, s, mm, args, below, meth, c, G, A, Z⟩ := K
  intro H locs ls hP hS hl
  exact lv_if_ne hK.1 hK.2.1 d ht (fun h => kt h H locs ls hP hS hl) (fun h => kf h H locs ls hP hS hl)
theorem aw_if_lt (hK : KOK K cc nL own Ts fr N lo) {x : Int32} {z : Int} (tgt : Nat) (ht : (pc : Int) + z = (tgt : Int)) (d : decode cc pc = .ok (.ifCond .lt z, 3)) (kt : x < 0 → AW K n tgt lv st m) (kf : ¬ x < 0 → AW K n (pc + 3) lv st m) : AW K n pc lv (q_i x :: st) m := by
  obtain ⟨p, l, e, R, s, mm, args, below, meth, c, G, A, Z⟩ := K
  intro H locs ls hP hS hl
  exact lv_if_lt hK.1 hK.2.1 d ht (fun h => kt h H locs ls hP hS hl) (fun h => kf h H locs ls hP hS hl)
theorem aw_if_ge (hK : KOK K cc nL own Ts fr N lo) {x : Int32} {z : Int} (tgt : Nat) (ht : (pc : Int) + z = (tgt : Int)) (d : decode cc pc = .ok (.ifCond .ge z, 3)) (kt : 0 ≤ x → AW K n tgt lv st m) (kf : ¬ 0 ≤ x → AW K n (pc + 3) lv st m) : AW K n pc lv (q_i x :: st) m := by
  obtain ⟨p, l, e, R, s, mm, args, below, meth, c, G, A, Z⟩ := K
  intro H locs ls hP hS hl
  exact lv_if_ge hK.1 hK.2.1 d ht (fun h => kt h H locs ls hP hS hl) (fun h => kf h H locs ls hP hS hl)
theorem aw_if_gt (hK : KOK K cc nL own Ts fr N lo) {x : Int32} {z : Int} (tgt : Nat) (ht : (pc : Int) + z = (tgt : Int)) (d : decode cc pc = .ok (.ifCond .gt z, 3)) (kt : 0 < x → AW K n tgt lv st m) (kf : ¬ 0 < x → AW K n (pc + 3) lv st m) : AW K n pc lv (q_i x :: st) m := by
  obtain ⟨p, l, e, R, s, mm, args, below, meth, c, G, A, Z⟩ := K
  intro H locs ls hP hS hl
  exact lv_if_gt hK.1 hK.2.1 d ht (fun h => kt h H locs ls hP hS hl) (fun h => kf h H locs ls hP hS hl)
theorem aw_if_le (hK : KOK K cc nL own Ts fr N lo) {x : Int32} {z : Int} (tgt : Nat) (ht : (pc : Int) + z = (tgt : Int)) (d : decode cc pc = .ok (.ifCond .le z, 3)) (kt : x ≤ 0 → AW K n tgt lv st m) (kf : ¬ x ≤ 0 → AW K n (pc + 3) lv st m) : AW K n pc lv (q_i x :: st) m := by
  obtain ⟨p, l, e, R, s, mm, args, below, meth, c, G, A, Z⟩ := K
  intro H locs ls hP hS hl
  exact lv_if_le hK.1 hK.2.1 d ht (fun h => kt h H locs ls hP hS hl) (fun h => kf h H locs ls hP hS hl)
theorem aw_get (hK : KOK K cc nL own Ts fr N lo) {kc c j idx Nf : Nat} {C : String} {T : u_T} (hcl : vwCl[c]? = some (C, T, Nf)) (hk : knd kc = c) (h9 : c < 10) (hj : j < Nf) {v : AV} (hv : ∀ G : GT, (flds G c kc (m kc))[j]? = some (toV G v)) (hlk : Cond.fieldLink own idx (T j).1 (T j).2.1 (T j).2.2.1 ∈ Ts) (d : decode cc pc = .ok (.getfield idx, 3)) (k : AW K n (pc + 3) lv (v :: st) m) : AW K n pc lv (q_r kc :: st) m := by
  obtain ⟨p, l, e, R, s, mm, args, below, meth, c, G, A, Z⟩ := K
  intro H locs ls hP hS hl
  obtain ⟨hx, hb, -, hown, hts, hG, -, -, -⟩ := id hK
  obtain ⟨i, hi⟩ := ws_at (b := flg G) (k := kc) (by omega)
  exact va_get hx hb (Ts := u_ws C T Nf) (fun w hw => va_Nw.use (u_on hw) (hG.2.2.1 _ (List.mem_of_getElem? hcl) w hw)) (fun w hw => hw) hown hG.1 hP i (by rw [ws_get hi, cell_o G hk h9]) hcl j hj (hts _ hlk) (fun _ h => h) (hv G) d (k H locs ls hP hS hl)
theorem aw_put (hK : KOK K cc nL own Ts fr N lo) {kc c j idx Nf : Nat} {C : String} {T : u_T} {ty0 : Nat → FieldType} {ty : FieldType} {x : Int32} (hcl : vwCl[c]? = some (C, T, Nf)) (hk : knd kc = c) (h9 : c < 10) (hj : j < Nf) (hty : ∀ k, k < Nf → parseFieldDescriptor (T k).2.2.1 = some (ty0 k)) (hnm : ∀ a, a < Nf → ∀ b, b < Nf → a ≠ b → (T a).2.1 ≠ (T b).2.1) {v : AV} (hv : ∀ (G : GT) (f : Nat → Int32), (flds G c kc f).set j (toV G v) = flds G c kc (upd f j x)) (hlen : ∀ (G : GT) (f : Nat → Int32), j < (flds G c kc f).length) (hfin : (T j).2.2.2 = false) (hd : parseFieldDescriptor (T j).2.2.1 = some ty) (hn : ∀ G : GT, narrow ty (toV G v) = toV G v) (hfit : ∀ G : GT, fits ty (toV G v) = true) (hlk : Cond.fieldLink own idx (T j).1 (T j).2.1 (T j).2.2.1 ∈ Ts) (d : decode cc pc = .ok (.putfield idx, 3)) (k : AW K n (pc + 3) lv st (mup m kc j x)) : AW K n pc lv (v :: q_r kc :: st) m := by
  obtain ⟨p, l, e, R, s, mm, args, below, meth, c, G, A, Z⟩ := K
  intro H locs ls hP hS hl
  obtain ⟨hx, hb, -, hown, hts, hG, -, -, hA⟩ := id hK
  obtain ⟨i, hi⟩ := ws_at (b := flg G) (k := kc) (by omega)
  refine va_put hx hb (Ts := u_ws C T Nf) (fun w hw => va_Nw.use (u_on hw) (hG.2.2.1 _ (List.mem_of_getElem? hcl) w hw)) (fun w hw => hw) ty0 hty hnm hown hG.1 hP (ws_D hG.2.2.2 hA m) hS i (by rw [ws_get hi, cell_o G hk h9]) hcl j hj (hts _ hlk) (fun _ h => h) hfin hd (hn G) (hfit G) (hlen G _) d (fun H1 locs1 hP1 _ hS1 => k H1 locs1 ls ?_ hS1 hl)
  rw [hv, ← mup_k, ← cell_o G hk h9, ws_set hi (fun k' h => mup_o m kc j x h)] at hP1
  exact hP1
theorem aw_iald (hK : KOK K cc nL own Ts fr N lo) {kc : Nat} {i : Int32} (hk : knd kc = 10) (hi : inb i (alen kc) = true) (d : decode cc pc = .ok (.iaload, 1)) (k : AW K n (pc + 1) lv (q_i (m kc (ix i)) :: st) m) : AW K n pc lv (q_i i :: q_r kc :: st) m := by
  obtain ⟨p, l, e, R, s, mm, args, below, meth, c, G, A, Z⟩ := K
  intro H locs ls hP hS hl
  obtain ⟨hx, hb, -, hown, hts, hG, -, -, -⟩ := id hK
  obtain ⟨z, hz⟩ := ws_at (b := flg G) (k := kc) (by omega)
  exact va_iald hx hb hG.1 hP z 0 (by rw [ws_get hz, cell_i G hk]) rfl (inb_in hi) d (k H locs ls hP hS hl)
theorem aw_zald (hK : KOK K cc nL own Ts fr N lo) {kc : Nat} {i : Int32} (hk : knd kc = 11) (hi : inb i (alen kc) = true) (d : decode cc pc = .ok (.baload, 1)) (k : AW K n (pc + 1) lv (q_i (m kc (ix i)) :: st) m) : AW K n pc lv (q_i i :: q_r kc :: st) m := by
  obtain ⟨p, l, e, R, s, mm, args, below, meth, c, G, A, Z⟩ := K
  intro H locs ls hP hS hl
  obtain ⟨hx, hb, -, hown, hts, hG, -, -, -⟩ := id hK
  obtain ⟨z, hz⟩ := ws_at (b := flg G) (k := kc) (by omega)
  exact va_zald hx hb hG.1 hP z 1 (by rw [ws_get hz, cell_z G hk]) rfl (inb_in hi) d (k H locs ls hP hS hl)
theorem aw_aald (hK : KOK K cc nL own Ts fr N lo) {kc : Nat} {i : Int32} (hk : knd kc = 12) (hi : inb i (alen kc) = true) (d : decode cc pc = .ok (.aaload, 1)) (k : AW K n (pc + 1) lv (q_r (200 + 4 * ix i) :: st) m) : AW K n pc lv (q_i i :: q_r kc :: st) m := by
  obtain ⟨p, l, e, R, s, mm, args, below, meth, c, G, A, Z⟩ := K
  intro H locs ls hP hS hl
  obtain ⟨hx, hb, -, hown, hts, hG, -, -, -⟩ := id hK
  obtain ⟨z, hz⟩ := ws_at (b := flg G) (k := kc) (by omega)
  exact va_aldq (f := fun i => some (G.2.2.2 (200 + 4 * i))) hx hb hG.1 hP z 2 (by rw [ws_get hz, cell_q G hk]) rfl (inb_in hi) d (k H locs ls hP hS hl)
theorem aw_iast (hK : KOK K cc nL own Ts fr N lo) {kc : Nat} {i x : Int32} (hk : knd kc = 10) (hi : inb i (alen kc) = true) (d : decode cc pc = .ok (.iastore, 1)) (k : AW K n (pc + 1) lv st (mup m kc (ix i) x)) : AW K n pc lv (q_i x :: q_i i :: q_r kc :: st) m := by
  obtain ⟨p, l, e, R, s, mm, args, below, meth, c, G, A, Z⟩ := K
  intro H locs ls hP hS hl
  obtain ⟨hx, hb, -, hown, hts, hG, -, -, hA⟩ := id hK
  obtain ⟨z, hz⟩ := ws_at (b := flg G) (k := kc) (by omega)
  refine va_iast hx hb hG.1 hP (ws_D hG.2.2.2 hA m) hS z 0 (by rw [ws_get hz, cell_i G hk]) rfl (inb_in hi) d (fun H1 locs1 hP1 _ hS1 => k H1 locs1 ls ?_ hS1 hl)
  rw [← mup_k, ← cell_i G hk, ws_set hz (fun k' h => mup_o m kc (ix i) x h)] at hP1
  exact hP1
theorem aw_zast (hK : KOK K cc nL own Ts fr N lo) {kc : Nat} {i x : Int32} (hk : knd kc = 11) (hi : inb i (alen kc) = true) (hb1 : isb x = true) (d : decode cc pc = .ok (.bastore, 1)) (k : AW K n (pc + 1) lv st (mup m kc (ix i) x)) : AW K n pc lv (q_i x :: q_i i :: q_r kc :: st) m := by
  obtain ⟨p, l, e, R, s, mm, args, below, meth, c, G, A, Z⟩ := K
  intro H locs ls hP hS hl
  obtain ⟨hx, hb, -, hown, hts, hG, -, -, hA⟩ := id hK
  obtain ⟨z, hz⟩ := ws_at (b := flg G) (k := kc) (by omega)
  refine va_zast hx hb hG.1 hP (ws_D hG.2.2.2 hA m) hS z 1 (by rw [ws_get hz, cell_z G hk]) rfl (inb_in hi) d (fun H1 locs1 hP1 _ hS1 => k H1 locs1 ls ?_ hS1 hl)
  rw [isb_nar hb1, ← mup_k, ← cell_z G hk, ws_set hz (fun k' h => mup_o m kc (ix i) x h)] at hP1
  exact hP1
theorem gf_0_0 (hK : KOK K cc nL own Ts fr N lo) {kc idx : Nat} (hk : knd kc = 0) (kr : Nat) (hr : kc + 1 = kr) (hlk : Cond.fieldLink own idx "AffixWorks$Arcs" "packed" "[I" ∈ Ts) (d : decode cc pc = .ok (.getfield idx, 3)) (k : AW K n (pc + 3) lv (q_r kr :: st) m) : AW K n pc lv (q_r kc :: st) m := by
  subst hr
  exact aw_get hK (c := 0) (j := 0) (v := q_r (kc + 1)) rfl hk (by decide) (by decide) (fun _ => rfl) hlk d k
theorem gf_0_1 (hK : KOK K cc nL own Ts fr N lo) {kc idx : Nat} (hk : knd kc = 0) (kr : Nat) (hr : kc + 2 = kr) (hlk : Cond.fieldLink own idx "AffixWorks$Arcs" "costs" "[I" ∈ Ts) (d : decode cc pc = .ok (.getfield idx, 3)) (k : AW K n (pc + 3) lv (q_r kr :: st) m) : AW K n pc lv (q_r kc :: st) m := by
  subst hr
  exact aw_get hK (c := 0) (j := 1) (v := q_r (kc + 2)) rfl hk (by decide) (by decide) (fun _ => rfl) hlk d k
theorem gf_0_2 (hK : KOK K cc nL own Ts fr N lo) {kc idx : Nat} (hk : knd kc = 0) (hlk : Cond.fieldLink own idx "AffixWorks$Arcs" "count" "I" ∈ Ts) (d : decode cc pc = .ok (.getfield idx, 3)) (k : AW K n (pc + 3) lv (q_i (m kc 2) :: st) m) : AW K n pc lv (q_r kc :: st) m := aw_get hK (c := 0) (j := 2) rfl hk (by decide) (by decide) (fun _ => rfl) hlk d k
theorem pf_0_2 (hK : KOK K cc nL own Ts fr N lo) {kc idx : Nat} {x : Int32} (hk : knd kc = 0) (hlk : Cond.fieldLink own idx "AffixWorks$Arcs" "count" "I" ∈ Ts) (d : decode cc pc = .ok (.putfield idx, 3)) (k : AW K n (pc + 3) lv st (mup m kc 2 x)) : AW K n pc lv (q_i x :: q_r kc :: st) m := aw_put hK (c := 0) (j := 2) (ty0 := tyX0) (ty := .int) rfl hk (by decide) (by decide) tyX0_ok nmX0 (fun _ _ => rfl) (fun _ _ => Nat.le_of_ble_eq_true rfl) rfl (by decide +kernel) (fun _ => rfl) (fun _ => rfl) hlk d k
theorem gf_1_0 (hK : KOK K cc nL own Ts fr N lo) {kc idx : Nat} (hk : knd kc = 1) (kr : Nat) (hr : kc + 1 = kr) (hlk : Cond.fieldLink own idx "AffixWorks$Draft" "packed" "[I" ∈ Ts) (d : decode cc pc = .ok (.getfield idx, 3)) (k : AW K n (pc + 3) lv (q_r kr :: st) m) : AW K n pc lv (q_r kc :: st) m := by
  subst hr
  exact aw_get hK (c := 1) (j := 0) (v := q_r (kc + 1)) rfl hk (by decide) (by decide) (fun _ => rfl) hlk d k
theorem gf_1_1 (hK : KOK K cc nL own Ts fr N lo) {kc idx : Nat} (hk : knd kc = 1) (kr : Nat) (hr : kc + 2 = kr) (hlk : Cond.fieldLink own idx "AffixWorks$Draft" "costs" "[I" ∈ Ts) (d : decode cc pc = .ok (.getfield idx, 3)) (k : AW K n (pc + 3) lv (q_r kr :: st) m) : AW K n pc lv (q_r kc :: st) m := by
  subst hr
  exact aw_get hK (c := 1) (j := 1) (v := q_r (kc + 2)) rfl hk (by decide) (by decide) (fun _ => rfl) hlk d k
theorem gf_1_2 (hK : KOK K cc nL own Ts fr N lo) {kc idx : Nat} (hk : knd kc = 1) (kr : Nat) (hr : kc + 3 = kr) (hlk : Cond.fieldLink own idx "AffixWorks$Draft" "ends" "[Z" ∈ Ts) (d : decode cc pc = .ok (.getfield idx, 3)) (k : AW K n (pc + 3) lv (q_r kr :: st) m) : AW K n pc lv (q_r kc :: st) m := by
  subst hr
  exact aw_get hK (c := 1) (j := 2) (v := q_r (kc + 3)) rfl hk (by decide) (by decide) (fun _ => rfl) hlk d k
theorem gf_1_3 (hK : KOK K cc nL own Ts fr N lo) {kc idx : Nat} (hk : knd kc = 1) (hlk : Cond.fieldLink own idx "AffixWorks$Draft" "states" "I" ∈ Ts) (d : decode cc pc = .ok (.getfield idx, 3)) (k : AW K n (pc + 3) lv (q_i (m kc 3) :: st) m) : AW K n pc lv (q_r kc :: st) m := aw_get hK (c := 1) (j := 3) rfl hk (by decide) (by decide) (fun _ => rfl) hlk d k
theorem pf_1_3 (hK : KOK K cc nL own Ts fr N lo) {kc idx : Nat} {x : Int32} (hk : knd kc = 1) (hlk : Cond.fieldLink own idx "AffixWorks$Draft" "states" "I" ∈ Ts) (d : decode cc pc = .ok (.putfield idx, 3)) (k : AW K n (pc + 3) lv st (mup m kc 3 x)) : AW K n pc lv (q_i x :: q_r kc :: st) m := aw_put hK (c := 1) (j := 3) (ty0 := tyX1) (ty := .int) rfl hk (by decide) (by decide) tyX1_ok nmX1 (fun _ _ => rfl) (fun _ _ => Nat.le_of_ble_eq_true rfl) rfl (by decide +kernel) (fun _ => rfl) (fun _ => rfl) hlk d k
theorem gf_1_4 (hK : KOK K cc nL own Ts fr N lo) {kc idx : Nat} (hk : knd kc = 1) (hlk : Cond.fieldLink own idx "AffixWorks$Draft" "start" "I" ∈ Ts) (d : decode cc pc = .ok (.getfield idx, 3)) (k : AW K n (pc + 3) lv (q_i (m kc 4) :: st) m) : AW K n pc lv (q_r kc :: st) m := aw_get hK (c := 1) (j := 4) rfl hk (by decide) (by decide) (fun _ => rfl) hlk d k
theorem pf_1_4 (hK : KOK K cc nL own Ts fr N lo) {kc idx : Nat} {x : Int32} (hk : knd kc = 1) (hlk : Cond.fieldLink own idx "AffixWorks$Draft" "start" "I" ∈ Ts) (d : decode cc pc = .ok (.putfield idx, 3)) (k : AW K n (pc + 3) lv st (mup m kc 4 x)) : AW K n pc lv (q_i x :: q_r kc :: st) m := aw_put hK (c := 1) (j := 4) (ty0 := tyX1) (ty := .int) rfl hk (by decide) (by decide) tyX1_ok nmX1 (fun _ _ => rfl) (fun _ _ => Nat.le_of_ble_eq_true rfl) rfl (by decide +kernel) (fun _ => rfl) (fun _ => rfl) hlk d k
theorem gf_1_5 (hK : KOK K cc nL own Ts fr N lo) {kc idx : Nat} (hk : knd kc = 1) (hlk : Cond.fieldLink own idx "AffixWorks$Draft" "count" "I" ∈ Ts) (d : decode cc pc = .ok (.getfield idx, 3)) (k : AW K n (pc + 3) lv (q_i (m kc 5) :: st) m) : AW K n pc lv (q_r kc :: st) m := aw_get hK (c := 1) (j := 5) rfl hk (by decide) (by decide) (fun _ => rfl) hlk d k
theorem pf_1_5 (hK : KOK K cc nL own Ts fr N lo) {kc idx : Nat} {x : Int32} (hk : knd kc = 1) (hlk : Cond.fieldLink own idx "AffixWorks$Draft" "count" "I" ∈ Ts) (d : decode cc pc = .ok (.putfield idx, 3)) (k : AW K n (pc + 3) lv st (mup m kc 5 x)) : AW K n pc lv (q_i x :: q_r kc :: st) m := aw_put hK (c := 1) (j := 5) (ty0 := tyX1) (ty := .int) rfl hk (by decide) (by decide) tyX1_ok nmX1 (fun _ _ => rfl) (fun _ _ => Nat.le_of_ble_eq_true rfl) rfl (by decide +kernel) (fun _ => rfl) (fun _ => rfl) hlk d k
theorem gf_1_6 (hK : KOK K cc nL own Ts fr N lo) {kc idx : Nat} (hk : knd kc = 1) (kr : Nat) (hr : kc + 4 = kr) (hlk : Cond.fieldLink own idx "AffixWorks$Draft" "lastArcs" "[I" ∈ Ts) (d : decode cc pc = .ok (.getfield idx, 3)) (k : AW K n (pc + 3) lv (q_r kr :: st) m) : AW K n pc lv (q_r kc :: st) m := by
  subst hr
  exact aw_get hK (c := 1) (j := 6) (v := q_r (kc + 4)) rfl hk (by decide) (by decide) (fun _ => rfl) hlk d k
theorem gf_1_7 (hK : KOK K cc nL own Ts fr N lo) {kc idx : Nat} (hk : knd kc = 1) (kr : Nat) (hr : kc + 5 = kr) (hlk : Cond.fieldLink own idx "AffixWorks$Draft" "arcsAhead" "[I" ∈ Ts) (d : decode cc pc = .ok (.getfield idx, 3)) (k : AW K n (pc + 3) lv (q_r kr :: st) m) : AW K n pc lv (q_r kc :: st) m := by
  subst hr
  exact aw_get hK (c := 1) (j := 7) (v := q_r (kc + 5)) rfl hk (by decide) (by decide) (fun _ => rfl) hlk d k
theorem gf_1_8 (hK : KOK K cc nL own Ts fr N lo) {kc idx : Nat} (hk : knd kc = 1) (kr : Nat) (hr : kc + 6 = kr) (hlk : Cond.fieldLink own idx "AffixWorks$Draft" "queue" "[I" ∈ Ts) (d : decode cc pc = .ok (.getfield idx, 3)) (k : AW K n (pc + 3) lv (q_r kr :: st) m) : AW K n pc lv (q_r kc :: st) m := by
  subst hr
  exact aw_get hK (c := 1) (j := 8) (v := q_r (kc + 6)) rfl hk (by decide) (by decide) (fun _ => rfl) hlk d k
theorem gf_1_9 (hK : KOK K cc nL own Ts fr N lo) {kc idx : Nat} (hk : knd kc = 1) (kr : Nat) (hr : kc + 7 = kr) (hlk : Cond.fieldLink own idx "AffixWorks$Draft" "isReached" "[Z" ∈ Ts) (d : decode cc pc = .ok (.getfield idx, 3)) (k : AW K n (pc + 3) lv (q_r kr :: st) m) : AW K n pc lv (q_r kc :: st) m := by
  subst hr
  exact aw_get hK (c := 1) (j := 9) (v := q_r (kc + 7)) rfl hk (by decide) (by decide) (fun _ => rfl) hlk d k
theorem gf_1_10 (hK : KOK K cc nL own Ts fr N lo) {kc idx : Nat} (hk : knd kc = 1) (kr : Nat) (hr : kc + 8 = kr) (hlk : Cond.fieldLink own idx "AffixWorks$Draft" "isUseful" "[Z" ∈ Ts) (d : decode cc pc = .ok (.getfield idx, 3)) (k : AW K n (pc + 3) lv (q_r kr :: st) m) : AW K n pc lv (q_r kc :: st) m := by
  subst hr
  exact aw_get hK (c := 1) (j := 10) (v := q_r (kc + 8)) rfl hk (by decide) (by decide) (fun _ => rfl) hlk d k
theorem gf_1_11 (hK : KOK K cc nL own Ts fr N lo) {kc idx : Nat} (hk : knd kc = 1) (kr : Nat) (hr : kc + 9 = kr) (hlk : Cond.fieldLink own idx "AffixWorks$Draft" "numbers" "[I" ∈ Ts) (d : decode cc pc = .ok (.getfield idx, 3)) (k : AW K n (pc + 3) lv (q_r kr :: st) m) : AW K n pc lv (q_r kc :: st) m := by
  subst hr
  exact aw_get hK (c := 1) (j := 11) (v := q_r (kc + 9)) rfl hk (by decide) (by decide) (fun _ => rfl) hlk d k
theorem gf_1_12 (hK : KOK K cc nL own Ts fr N lo) {kc idx : Nat} (hk : knd kc = 1) (kr : Nat) (hr : kc + 10 = kr) (hlk : Cond.fieldLink own idx "AffixWorks$Draft" "useful" "LAffixWorks$Arcs;" ∈ Ts) (d : decode cc pc = .ok (.getfield idx, 3)) (k : AW K n (pc + 3) lv (q_r kr :: st) m) : AW K n pc lv (q_r kc :: st) m := by
  subst hr
  exact aw_get hK (c := 1) (j := 12) (v := q_r (kc + 10)) rfl hk (by decide) (by decide) (fun _ => rfl) hlk d k
theorem gf_2_0 (hK : KOK K cc nL own Ts fr N lo) {kc idx : Nat} (hk : knd kc = 2) (kr : Nat) (hr : kc + 1 = kr) (hlk : Cond.fieldLink own idx "AffixWorks$Lessons" "words" "[I" ∈ Ts) (d : decode cc pc = .ok (.getfield idx, 3)) (k : AW K n (pc + 3) lv (q_r kr :: st) m) : AW K n pc lv (q_r kc :: st) m := by
  subst hr
  exact aw_get hK (c := 2) (j := 0) (v := q_r (kc + 1)) rfl hk (by decide) (by decide) (fun _ => rfl) hlk d k
theorem gf_2_1 (hK : KOK K cc nL own Ts fr N lo) {kc idx : Nat} (hk : knd kc = 2) (kr : Nat) (hr : kc + 2 = kr) (hlk : Cond.fieldLink own idx "AffixWorks$Lessons" "lengths" "[I" ∈ Ts) (d : decode cc pc = .ok (.getfield idx, 3)) (k : AW K n (pc + 3) lv (q_r kr :: st) m) : AW K n pc lv (q_r kc :: st) m := by
  subst hr
  exact aw_get hK (c := 2) (j := 1) (v := q_r (kc + 2)) rfl hk (by decide) (by decide) (fun _ => rfl) hlk d k
theorem gf_2_2 (hK : KOK K cc nL own Ts fr N lo) {kc idx : Nat} (hk : knd kc = 2) (kr : Nat) (hr : kc + 3 = kr) (hlk : Cond.fieldLink own idx "AffixWorks$Lessons" "kinds" "[I" ∈ Ts) (d : decode cc pc = .ok (.getfield idx, 3)) (k : AW K n (pc + 3) lv (q_r kr :: st) m) : AW K n pc lv (q_r kc :: st) m := by
  subst hr
  exact aw_get hK (c := 2) (j := 2) (v := q_r (kc + 3)) rfl hk (by decide) (by decide) (fun _ => rfl) hlk d k
theorem gf_2_3 (hK : KOK K cc nL own Ts fr N lo) {kc idx : Nat} (hk : knd kc = 2) (kr : Nat) (hr : kc + 4 = kr) (hlk : Cond.fieldLink own idx "AffixWorks$Lessons" "endings" "[I" ∈ Ts) (d : decode cc pc = .ok (.getfield idx, 3)) (k : AW K n (pc + 3) lv (q_r kr :: st) m) : AW K n pc lv (q_r kc :: st) m := by
  subst hr
  exact aw_get hK (c := 2) (j := 3) (v := q_r (kc + 4)) rfl hk (by decide) (by decide) (fun _ => rfl) hlk d k
theorem gf_2_4 (hK : KOK K cc nL own Ts fr N lo) {kc idx : Nat} (hk : knd kc = 2) (kr : Nat) (hr : kc + 5 = kr) (hlk : Cond.fieldLink own idx "AffixWorks$Lessons" "votes" "[I" ∈ Ts) (d : decode cc pc = .ok (.getfield idx, 3)) (k : AW K n (pc + 3) lv (q_r kr :: st) m) : AW K n pc lv (q_r kc :: st) m := by
  subst hr
  exact aw_get hK (c := 2) (j := 4) (v := q_r (kc + 5)) rfl hk (by decide) (by decide) (fun _ => rfl) hlk d k
theorem gf_2_5 (hK : KOK K cc nL own Ts fr N lo) {kc idx : Nat} (hk : knd kc = 2) (hlk : Cond.fieldLink own idx "AffixWorks$Lessons" "count" "I" ∈ Ts) (d : decode cc pc = .ok (.getfield idx, 3)) (k : AW K n (pc + 3) lv (q_i (m kc 5) :: st) m) : AW K n pc lv (q_r kc :: st) m := aw_get hK (c := 2) (j := 5) rfl hk (by decide) (by decide) (fun _ => rfl) hlk d k
theorem pf_2_5 (hK : KOK K cc nL own Ts fr N lo) {kc idx : Nat} {x : Int32} (hk : knd kc = 2) (hlk : Cond.fieldLink own idx "AffixWorks$Lessons" "count" "I" ∈ Ts) (d : decode cc pc = .ok (.putfield idx, 3)) (k : AW K n (pc + 3) lv st (mup m kc 5 x)) : AW K n pc lv (q_i x :: q_r kc :: st) m := aw_put hK (c := 2) (j := 5) (ty0 := tyX2) (ty := .int) rfl hk (by decide) (by decide) tyX2_ok nmX2 (fun _ _ => rfl) (fun _ _ => Nat.le_of_ble_eq_true rfl) rfl (by decide +kernel) (fun _ => rfl) (fun _ => rfl) hlk d k
theorem gf_3_0 (hK : KOK K cc nL own Ts fr N lo) {kc idx : Nat} (hk : knd kc = 3) (kr : Nat) (hr : kc + 1 = kr) (hlk : Cond.fieldLink own idx "AffixWorks$Machine" "arcs" "LAffixWorks$Arcs;" ∈ Ts) (d : decode cc pc = .ok (.getfield idx, 3)) (k : AW K n (pc + 3) lv (q_r kr :: st) m) : AW K n pc lv (q_r kc :: st) m := by
  subst hr
  exact aw_get hK (c := 3) (j := 0) (v := q_r (kc + 1)) rfl hk (by decide) (by decide) (fun _ => rfl) hlk d k
theorem gf_3_1 (hK : KOK K cc nL own Ts fr N lo) {kc idx : Nat} (hk : knd kc = 3) (hlk : Cond.fieldLink own idx "AffixWorks$Machine" "states" "I" ∈ Ts) (d : decode cc pc = .ok (.getfield idx, 3)) (k : AW K n (pc + 3) lv (q_i (m kc 1) :: st) m) : AW K n pc lv (q_r kc :: st) m := aw_get hK (c := 3) (j := 1) rfl hk (by decide) (by decide) (fun _ => rfl) hlk d k
theorem pf_3_1 (hK : KOK K cc nL own Ts fr N lo) {kc idx : Nat} {x : Int32} (hk : knd kc = 3) (hlk : Cond.fieldLink own idx "AffixWorks$Machine" "states" "I" ∈ Ts) (d : decode cc pc = .ok (.putfield idx, 3)) (k : AW K n (pc + 3) lv st (mup m kc 1 x)) : AW K n pc lv (q_i x :: q_r kc :: st) m := aw_put hK (c := 3) (j := 1) (ty0 := tyX3) (ty := .int) rfl hk (by decide) (by decide) tyX3_ok nmX3 (fun _ _ => rfl) (fun _ _ => Nat.le_of_ble_eq_true rfl) rfl (by decide +kernel) (fun _ => rfl) (fun _ => rfl) hlk d k
theorem gf_3_2 (hK : KOK K cc nL own Ts fr N lo) {kc idx : Nat} (hk : knd kc = 3) (hlk : Cond.fieldLink own idx "AffixWorks$Machine" "ends" "I" ∈ Ts) (d : decode cc pc = .ok (.getfield idx, 3)) (k : AW K n (pc + 3) lv (q_i (m kc 2) :: st) m) : AW K n pc lv (q_r kc :: st) m := aw_get hK (c := 3) (j := 2) rfl hk (by decide) (by decide) (fun _ => rfl) hlk d k
theorem pf_3_2 (hK : KOK K cc nL own Ts fr N lo) {kc idx : Nat} {x : Int32} (hk : knd kc = 3) (hlk : Cond.fieldLink own idx "AffixWorks$Machine" "ends" "I" ∈ Ts) (d : decode cc pc = .ok (.putfield idx, 3)) (k : AW K n (pc + 3) lv st (mup m kc 2 x)) : AW K n pc lv (q_i x :: q_r kc :: st) m := aw_put hK (c := 3) (j := 2) (ty0 := tyX3) (ty := .int) rfl hk (by decide) (by decide) tyX3_ok nmX3 (fun _ _ => rfl) (fun _ _ => Nat.le_of_ble_eq_true rfl) rfl (by decide +kernel) (fun _ => rfl) (fun _ => rfl) hlk d k
theorem gf_4_0 (hK : KOK K cc nL own Ts fr N lo) {kc idx : Nat} (hk : knd kc = 4) (kr : Nat) (hr : kc + 1 = kr) (hlk : Cond.fieldLink own idx "AffixWorks$Search" "word" "[I" ∈ Ts) (d : decode cc pc = .ok (.getfield idx, 3)) (k : AW K n (pc + 3) lv (q_r kr :: st) m) : AW K n pc lv (q_r kc :: st) m := by
  subst hr
  exact aw_get hK (c := 4) (j := 0) (v := q_r (kc + 1)) rfl hk (by decide) (by decide) (fun _ => rfl) hlk d k
theorem gf_4_1 (hK : KOK K cc nL own Ts fr N lo) {kc idx : Nat} (hk : knd kc = 4) (hlk : Cond.fieldLink own idx "AffixWorks$Search" "length" "I" ∈ Ts) (d : decode cc pc = .ok (.getfield idx, 3)) (k : AW K n (pc + 3) lv (q_i (m kc 1) :: st) m) : AW K n pc lv (q_r kc :: st) m := aw_get hK (c := 4) (j := 1) rfl hk (by decide) (by decide) (fun _ => rfl) hlk d k
theorem pf_4_1 (hK : KOK K cc nL own Ts fr N lo) {kc idx : Nat} {x : Int32} (hk : knd kc = 4) (hlk : Cond.fieldLink own idx "AffixWorks$Search" "length" "I" ∈ Ts) (d : decode cc pc = .ok (.putfield idx, 3)) (k : AW K n (pc + 3) lv st (mup m kc 1 x)) : AW K n pc lv (q_i x :: q_r kc :: st) m := aw_put hK (c := 4) (j := 1) (ty0 := tyX4) (ty := .int) rfl hk (by decide) (by decide) tyX4_ok nmX4 (fun _ _ => rfl) (fun _ _ => Nat.le_of_ble_eq_true rfl) rfl (by decide +kernel) (fun _ => rfl) (fun _ => rfl) hlk d k
theorem gf_4_2 (hK : KOK K cc nL own Ts fr N lo) {kc idx : Nat} (hk : knd kc = 4) (hlk : Cond.fieldLink own idx "AffixWorks$Search" "machine" "LAffixWorks$Machine;" ∈ Ts) (d : decode cc pc = .ok (.getfield idx, 3)) (k : AW K n (pc + 3) lv (q_r (ix (m kc 2)) :: st) m) : AW K n pc lv (q_r kc :: st) m := aw_get hK (c := 4) (j := 2) rfl hk (by decide) (by decide) (fun _ => rfl) hlk d k
theorem pf_4_2 (hK : KOK K cc nL own Ts fr N lo) {kc idx q : Nat} (hk : knd kc = 4) (hq : q < 300) (hlk : Cond.fieldLink own idx "AffixWorks$Search" "machine" "LAffixWorks$Machine;" ∈ Ts) (d : decode cc pc = .ok (.putfield idx, 3)) (k : AW K n (pc + 3) lv st (mup m kc 2 (nI q))) : AW K n pc lv (q_r q :: q_r kc :: st) m := aw_put hK (c := 4) (j := 2) (ty0 := tyX4) (ty := (.object "AffixWorks$Machine")) rfl hk (by decide) (by decide) tyX4_ok nmX4 (fun G f => by simp [flds, toV, upd, nI_clamp (show q < 2 ^ 31 by omega)]) (fun _ _ => Nat.le_of_ble_eq_true rfl) rfl (by decide +kernel) (fun _ => rfl) (fun _ => rfl) hlk d k
theorem gf_4_3 (hK : KOK K cc nL own Ts fr N lo) {kc idx : Nat} (hk : knd kc = 4) (hlk : Cond.fieldLink own idx "AffixWorks$Search" "way" "I" ∈ Ts) (d : decode cc pc = .ok (.getfield idx, 3)) (k : AW K n (pc + 3) lv (q_i (m kc 3) :: st) m) : AW K n pc lv (q_r kc :: st) m := aw_get hK (c := 4) (j := 3) rfl hk (by decide) (by decide) (fun _ => rfl) hlk d k
theorem pf_4_3 (hK : KOK K cc nL own Ts fr N lo) {kc idx : Nat} {x : Int32} (hk : knd kc = 4) (hlk : Cond.fieldLink own idx "AffixWorks$Search" "way" "I" ∈ Ts) (d : decode cc pc = .ok (.putfield idx, 3)) (k : AW K n (pc + 3) lv st (mup m kc 3 x)) : AW K n pc lv (q_i x :: q_r kc :: st) m := aw_put hK (c := 4) (j := 3) (ty0 := tyX4) (ty := .int) rfl hk (by decide) (by decide) tyX4_ok nmX4 (fun _ _ => rfl) (fun _ _ => Nat.le_of_ble_eq_true rfl) rfl (by decide +kernel) (fun _ => rfl) (fun _ => rfl) hlk d k
theorem gf_4_4 (hK : KOK K cc nL own Ts fr N lo) {kc idx : Nat} (hk : knd kc = 4) (hlk : Cond.fieldLink own idx "AffixWorks$Search" "isCheapest" "Z" ∈ Ts) (d : decode cc pc = .ok (.getfield idx, 3)) (k : AW K n (pc + 3) lv (q_i (m kc 4) :: st) m) : AW K n pc lv (q_r kc :: st) m := aw_get hK (c := 4) (j := 4) rfl hk (by decide) (by decide) (fun _ => rfl) hlk d k
theorem pf_4_4 (hK : KOK K cc nL own Ts fr N lo) {kc idx : Nat} {x : Int32} (hk : knd kc = 4) (hx : isb x = true) (hlk : Cond.fieldLink own idx "AffixWorks$Search" "isCheapest" "Z" ∈ Ts) (d : decode cc pc = .ok (.putfield idx, 3)) (k : AW K n (pc + 3) lv st (mup m kc 4 x)) : AW K n pc lv (q_i x :: q_r kc :: st) m := aw_put hK (c := 4) (j := 4) (ty0 := tyX4) (ty := .boolean) rfl hk (by decide) (by decide) tyX4_ok nmX4 (fun _ _ => rfl) (fun _ _ => Nat.le_of_ble_eq_true rfl) rfl (by decide +kernel) (fun _ => isb_narrow hx) (fun _ => isb_fits hx) hlk d k
theorem gf_4_5 (hK : KOK K cc nL own Ts fr N lo) {kc idx : Nat} (hk : knd kc = 4) (kr : Nat) (hr : kc + 2 = kr) (hlk : Cond.fieldLink own idx "AffixWorks$Search" "froms" "[I" ∈ Ts) (d : decode cc pc = .ok (.getfield idx, 3)) (k : AW K n (pc + 3) lv (q_r kr :: st) m) : AW K n pc lv (q_r kc :: st) m := by
  subst hr
  exact aw_get hK (c := 4) (j := 5) (v := q_r (kc + 2)) rfl hk (by decide) (by decide) (fun _ => rfl) hlk d k
theorem gf_4_6 (hK : KOK K cc nL own Ts fr N lo) {kc idx : Nat} (hk : knd kc = 4) (kr : Nat) (hr : kc + 3 = kr) (hlk : Cond.fieldLink own idx "AffixWorks$Search" "reads" "[I" ∈ Ts) (d : decode cc pc = .ok (.getfield idx, 3)) (k : AW K n (pc + 3) lv (q_r kr :: st) m) : AW K n pc lv (q_r kc :: st) m := by
  subst hr
  exact aw_get hK (c := 4) (j := 6) (v := q_r (kc + 3)) rfl hk (by decide) (by decide) (fun _ => rfl) hlk d k
theorem gf_4_7 (hK : KOK K cc nL own Ts fr N lo) {kc idx : Nat} (hk : knd kc = 4) (kr : Nat) (hr : kc + 4 = kr) (hlk : Cond.fieldLink own idx "AffixWorks$Search" "says" "[I" ∈ Ts) (d : decode cc pc = .ok (.getfield idx, 3)) (k : AW K n (pc + 3) lv (q_r kr :: st) m) : AW K n pc lv (q_r kc :: st) m := by
  subst hr
  exact aw_get hK (c := 4) (j := 7) (v := q_r (kc + 4)) rfl hk (by decide) (by decide) (fun _ => rfl) hlk d k
theorem gf_4_8 (hK : KOK K cc nL own Ts fr N lo) {kc idx : Nat} (hk : knd kc = 4) (kr : Nat) (hr : kc + 5 = kr) (hlk : Cond.fieldLink own idx "AffixWorks$Search" "tos" "[I" ∈ Ts) (d : decode cc pc = .ok (.getfield idx, 3)) (k : AW K n (pc + 3) lv (q_r kr :: st) m) : AW K n pc lv (q_r kc :: st) m := by
  subst hr
  exact aw_get hK (c := 4) (j := 8) (v := q_r (kc + 5)) rfl hk (by decide) (by decide) (fun _ => rfl) hlk d k
theorem gf_4_9 (hK : KOK K cc nL own Ts fr N lo) {kc idx : Nat} (hk : knd kc = 4) (kr : Nat) (hr : kc + 6 = kr) (hlk : Cond.fieldLink own idx "AffixWorks$Search" "costsLeft" "[I" ∈ Ts) (d : decode cc pc = .ok (.getfield idx, 3)) (k : AW K n (pc + 3) lv (q_r kr :: st) m) : AW K n pc lv (q_r kc :: st) m := by
  subst hr
  exact aw_get hK (c := 4) (j := 9) (v := q_r (kc + 6)) rfl hk (by decide) (by decide) (fun _ => rfl) hlk d k
theorem gf_4_10 (hK : KOK K cc nL own Ts fr N lo) {kc idx : Nat} (hk : knd kc = 4) (kr : Nat) (hr : kc + 7 = kr) (hlk : Cond.fieldLink own idx "AffixWorks$Search" "sets" "[I" ∈ Ts) (d : decode cc pc = .ok (.getfield idx, 3)) (k : AW K n (pc + 3) lv (q_r kr :: st) m) : AW K n pc lv (q_r kc :: st) m := by
  subst hr
  exact aw_get hK (c := 4) (j := 10) (v := q_r (kc + 7)) rfl hk (by decide) (by decide) (fun _ => rfl) hlk d k
theorem gf_4_11 (hK : KOK K cc nL own Ts fr N lo) {kc idx : Nat} (hk : knd kc = 4) (kr : Nat) (hr : kc + 8 = kr) (hlk : Cond.fieldLink own idx "AffixWorks$Search" "lettersLeft" "[I" ∈ Ts) (d : decode cc pc = .ok (.getfield idx, 3)) (k : AW K n (pc + 3) lv (q_r kr :: st) m) : AW K n pc lv (q_r kc :: st) m := by
  subst hr
  exact aw_get hK (c := 4) (j := 11) (v := q_r (kc + 8)) rfl hk (by decide) (by decide) (fun _ => rfl) hlk d k
theorem gf_4_12 (hK : KOK K cc nL own Ts fr N lo) {kc idx : Nat} (hk : knd kc = 4) (kr : Nat) (hr : kc + 9 = kr) (hlk : Cond.fieldLink own idx "AffixWorks$Search" "row" "[I" ∈ Ts) (d : decode cc pc = .ok (.getfield idx, 3)) (k : AW K n (pc + 3) lv (q_r kr :: st) m) : AW K n pc lv (q_r kc :: st) m := by
  subst hr
  exact aw_get hK (c := 4) (j := 12) (v := q_r (kc + 9)) rfl hk (by decide) (by decide) (fun _ => rfl) hlk d k
theorem gf_4_13 (hK : KOK K cc nL own Ts fr N lo) {kc idx : Nat} (hk : knd kc = 4) (hlk : Cond.fieldLink own idx "AffixWorks$Search" "rowLength" "I" ∈ Ts) (d : decode cc pc = .ok (.getfield idx, 3)) (k : AW K n (pc + 3) lv (q_i (m kc 13) :: st) m) : AW K n pc lv (q_r kc :: st) m := aw_get hK (c := 4) (j := 13) rfl hk (by decide) (by decide) (fun _ => rfl) hlk d k
theorem pf_4_13 (hK : KOK K cc nL own Ts fr N lo) {kc idx : Nat} {x : Int32} (hk : knd kc = 4) (hlk : Cond.fieldLink own idx "AffixWorks$Search" "rowLength" "I" ∈ Ts) (d : decode cc pc = .ok (.putfield idx, 3)) (k : AW K n (pc + 3) lv st (mup m kc 13 x)) : AW K n pc lv (q_i x :: q_r kc :: st) m := aw_put hK (c := 4) (j := 13) (ty0 := tyX4) (ty := .int) rfl hk (by decide) (by decide) tyX4_ok nmX4 (fun _ _ => rfl) (fun _ _ => Nat.le_of_ble_eq_true rfl) rfl (by decide +kernel) (fun _ => rfl) (fun _ => rfl) hlk d k
theorem gf_5_0 (hK : KOK K cc nL own Ts fr N lo) {kc idx : Nat} (hk : knd kc = 5) (kr : Nat) (hr : kc + 1 = kr) (hlk : Cond.fieldLink own idx "AffixWorks$SetPairs" "first" "LAffixWorks$Steps;" ∈ Ts) (d : decode cc pc = .ok (.getfield idx, 3)) (k : AW K n (pc + 3) lv (q_r kr :: st) m) : AW K n pc lv (q_r kc :: st) m := by
  subst hr
  exact aw_get hK (c := 5) (j := 0) (v := q_r (kc + 1)) rfl hk (by decide) (by decide) (fun _ => rfl) hlk d k
theorem gf_5_1 (hK : KOK K cc nL own Ts fr N lo) {kc idx : Nat} (hk : knd kc = 5) (kr : Nat) (hr : kc + 4 = kr) (hlk : Cond.fieldLink own idx "AffixWorks$SetPairs" "second" "LAffixWorks$Steps;" ∈ Ts) (d : decode cc pc = .ok (.getfield idx, 3)) (k : AW K n (pc + 3) lv (q_r kr :: st) m) : AW K n pc lv (q_r kc :: st) m := by
  subst hr
  exact aw_get hK (c := 5) (j := 1) (v := q_r (kc + 4)) rfl hk (by decide) (by decide) (fun _ => rfl) hlk d k
theorem gf_5_2 (hK : KOK K cc nL own Ts fr N lo) {kc idx : Nat} (hk : knd kc = 5) (hlk : Cond.fieldLink own idx "AffixWorks$SetPairs" "wanted" "I" ∈ Ts) (d : decode cc pc = .ok (.getfield idx, 3)) (k : AW K n (pc + 3) lv (q_i (m kc 2) :: st) m) : AW K n pc lv (q_r kc :: st) m := aw_get hK (c := 5) (j := 2) rfl hk (by decide) (by decide) (fun _ => rfl) hlk d k
theorem pf_5_2 (hK : KOK K cc nL own Ts fr N lo) {kc idx : Nat} {x : Int32} (hk : knd kc = 5) (hlk : Cond.fieldLink own idx "AffixWorks$SetPairs" "wanted" "I" ∈ Ts) (d : decode cc pc = .ok (.putfield idx, 3)) (k : AW K n (pc + 3) lv st (mup m kc 2 x)) : AW K n pc lv (q_i x :: q_r kc :: st) m := aw_put hK (c := 5) (j := 2) (ty0 := tyX5) (ty := .int) rfl hk (by decide) (by decide) tyX5_ok nmX5 (fun _ _ => rfl) (fun _ _ => Nat.le_of_ble_eq_true rfl) rfl (by decide +kernel) (fun _ => rfl) (fun _ => rfl) hlk d k
theorem gf_5_3 (hK : KOK K cc nL own Ts fr N lo) {kc idx : Nat} (hk : knd kc = 5) (kr : Nat) (hr : kc + 7 = kr) (hlk : Cond.fieldLink own idx "AffixWorks$SetPairs" "firstSets" "[I" ∈ Ts) (d : decode cc pc = .ok (.getfield idx, 3)) (k : AW K n (pc + 3) lv (q_r kr :: st) m) : AW K n pc lv (q_r kc :: st) m := by
  subst hr
  exact aw_get hK (c := 5) (j := 3) (v := q_r (kc + 7)) rfl hk (by decide) (by decide) (fun _ => rfl) hlk d k
theorem gf_5_4 (hK : KOK K cc nL own Ts fr N lo) {kc idx : Nat} (hk : knd kc = 5) (kr : Nat) (hr : kc + 8 = kr) (hlk : Cond.fieldLink own idx "AffixWorks$SetPairs" "secondSets" "[I" ∈ Ts) (d : decode cc pc = .ok (.getfield idx, 3)) (k : AW K n (pc + 3) lv (q_r kr :: st) m) : AW K n pc lv (q_r kc :: st) m := by
  subst hr
  exact aw_get hK (c := 5) (j := 4) (v := q_r (kc + 8)) rfl hk (by decide) (by decide) (fun _ => rfl) hlk d k
theorem gf_5_5 (hK : KOK K cc nL own Ts fr N lo) {kc idx : Nat} (hk : knd kc = 5) (kr : Nat) (hr : kc + 9 = kr) (hlk : Cond.fieldLink own idx "AffixWorks$SetPairs" "nexts" "[I" ∈ Ts) (d : decode cc pc = .ok (.getfield idx, 3)) (k : AW K n (pc + 3) lv (q_r kr :: st) m) : AW K n pc lv (q_r kc :: st) m := by
  subst hr
  exact aw_get hK (c := 5) (j := 5) (v := q_r (kc + 9)) rfl hk (by decide) (by decide) (fun _ => rfl) hlk d k
theorem gf_5_6 (hK : KOK K cc nL own Ts fr N lo) {kc idx : Nat} (hk : knd kc = 5) (kr : Nat) (hr : kc + 10 = kr) (hlk : Cond.fieldLink own idx "AffixWorks$SetPairs" "parents" "[I" ∈ Ts) (d : decode cc pc = .ok (.getfield idx, 3)) (k : AW K n (pc + 3) lv (q_r kr :: st) m) : AW K n pc lv (q_r kc :: st) m := by
  subst hr
  exact aw_get hK (c := 5) (j := 6) (v := q_r (kc + 10)) rfl hk (by decide) (by decide) (fun _ => rfl) hlk d k
theorem gf_5_7 (hK : KOK K cc nL own Ts fr N lo) {kc idx : Nat} (hk : knd kc = 5) (kr : Nat) (hr : kc + 11 = kr) (hlk : Cond.fieldLink own idx "AffixWorks$SetPairs" "lastLetters" "[I" ∈ Ts) (d : decode cc pc = .ok (.getfield idx, 3)) (k : AW K n (pc + 3) lv (q_r kr :: st) m) : AW K n pc lv (q_r kc :: st) m := by
  subst hr
  exact aw_get hK (c := 5) (j := 7) (v := q_r (kc + 11)) rfl hk (by decide) (by decide) (fun _ => rfl) hlk d k
theorem gf_5_8 (hK : KOK K cc nL own Ts fr N lo) {kc idx : Nat} (hk : knd kc = 5) (hlk : Cond.fieldLink own idx "AffixWorks$SetPairs" "count" "I" ∈ Ts) (d : decode cc pc = .ok (.getfield idx, 3)) (k : AW K n (pc + 3) lv (q_i (m kc 8) :: st) m) : AW K n pc lv (q_r kc :: st) m := aw_get hK (c := 5) (j := 8) rfl hk (by decide) (by decide) (fun _ => rfl) hlk d k
theorem pf_5_8 (hK : KOK K cc nL own Ts fr N lo) {kc idx : Nat} {x : Int32} (hk : knd kc = 5) (hlk : Cond.fieldLink own idx "AffixWorks$SetPairs" "count" "I" ∈ Ts) (d : decode cc pc = .ok (.putfield idx, 3)) (k : AW K n (pc + 3) lv st (mup m kc 8 x)) : AW K n pc lv (q_i x :: q_r kc :: st) m := aw_put hK (c := 5) (j := 8) (ty0 := tyX5) (ty := .int) rfl hk (by decide) (by decide) tyX5_ok nmX5 (fun _ _ => rfl) (fun _ _ => Nat.le_of_ble_eq_true rfl) rfl (by decide +kernel) (fun _ => rfl) (fun _ => rfl) hlk d k
theorem gf_5_9 (hK : KOK K cc nL own Ts fr N lo) {kc idx : Nat} (hk : knd kc = 5) (kr : Nat) (hr : kc + 12 = kr) (hlk : Cond.fieldLink own idx "AffixWorks$SetPairs" "isUseful" "[Z" ∈ Ts) (d : decode cc pc = .ok (.getfield idx, 3)) (k : AW K n (pc + 3) lv (q_r kr :: st) m) : AW K n pc lv (q_r kc :: st) m := by
  subst hr
  exact aw_get hK (c := 5) (j := 9) (v := q_r (kc + 12)) rfl hk (by decide) (by decide) (fun _ => rfl) hlk d k
theorem gf_5_10 (hK : KOK K cc nL own Ts fr N lo) {kc idx : Nat} (hk : knd kc = 5) (hlk : Cond.fieldLink own idx "AffixWorks$SetPairs" "groups" "[I" ∈ Ts) (d : decode cc pc = .ok (.getfield idx, 3)) (k : AW K n (pc + 3) lv (q_r (ix (m kc 10)) :: st) m) : AW K n pc lv (q_r kc :: st) m := aw_get hK (c := 5) (j := 10) rfl hk (by decide) (by decide) (fun _ => rfl) hlk d k
theorem pf_5_10 (hK : KOK K cc nL own Ts fr N lo) {kc idx q : Nat} (hk : knd kc = 5) (hq : q < 300) (hlk : Cond.fieldLink own idx "AffixWorks$SetPairs" "groups" "[I" ∈ Ts) (d : decode cc pc = .ok (.putfield idx, 3)) (k : AW K n (pc + 3) lv st (mup m kc 10 (nI q))) : AW K n pc lv (q_r q :: q_r kc :: st) m := aw_put hK (c := 5) (j := 10) (ty0 := tyX5) (ty := (.array .int)) rfl hk (by decide) (by decide) tyX5_ok nmX5 (fun G f => by simp [flds, toV, upd, nI_clamp (show q < 2 ^ 31 by omega)]) (fun _ _ => Nat.le_of_ble_eq_true rfl) rfl (by decide +kernel) (fun _ => rfl) (fun _ => rfl) hlk d k
theorem gf_5_11 (hK : KOK K cc nL own Ts fr N lo) {kc idx : Nat} (hk : knd kc = 5) (hlk : Cond.fieldLink own idx "AffixWorks$SetPairs" "finerGroups" "[I" ∈ Ts) (d : decode cc pc = .ok (.getfield idx, 3)) (k : AW K n (pc + 3) lv (q_r (ix (m kc 11)) :: st) m) : AW K n pc lv (q_r kc :: st) m := aw_get hK (c := 5) (j := 11) rfl hk (by decide) (by decide) (fun _ => rfl) hlk d k
theorem pf_5_11 (hK : KOK K cc nL own Ts fr N lo) {kc idx q : Nat} (hk : knd kc = 5) (hq : q < 300) (hlk : Cond.fieldLink own idx "AffixWorks$SetPairs" "finerGroups" "[I" ∈ Ts) (d : decode cc pc = .ok (.putfield idx, 3)) (k : AW K n (pc + 3) lv st (mup m kc 11 (nI q))) : AW K n pc lv (q_r q :: q_r kc :: st) m := aw_put hK (c := 5) (j := 11) (ty0 := tyX5) (ty := (.array .int)) rfl hk (by decide) (by decide) tyX5_ok nmX5 (fun G f => by simp [flds, toV, upd, nI_clamp (show q < 2 ^ 31 by omega)]) (fun _ _ => Nat.le_of_ble_eq_true rfl) rfl (by decide +kernel) (fun _ => rfl) (fun _ => rfl) hlk d k
theorem gf_5_12 (hK : KOK K cc nL own Ts fr N lo) {kc idx : Nat} (hk : knd kc = 5) (kr : Nat) (hr : kc + 15 = kr) (hlk : Cond.fieldLink own idx "AffixWorks$SetPairs" "members" "[I" ∈ Ts) (d : decode cc pc = .ok (.getfield idx, 3)) (k : AW K n (pc + 3) lv (q_r kr :: st) m) : AW K n pc lv (q_r kc :: st) m := by
  subst hr
  exact aw_get hK (c := 5) (j := 12) (v := q_r (kc + 15)) rfl hk (by decide) (by decide) (fun _ => rfl) hlk d k
theorem gf_6_0 (hK : KOK K cc nL own Ts fr N lo) {kc idx : Nat} (hk : knd kc = 6) (kr : Nat) (hr : kc + 1 = kr) (hlk : Cond.fieldLink own idx "AffixWorks$Steps" "closures" "[I" ∈ Ts) (d : decode cc pc = .ok (.getfield idx, 3)) (k : AW K n (pc + 3) lv (q_r kr :: st) m) : AW K n pc lv (q_r kc :: st) m := by
  subst hr
  exact aw_get hK (c := 6) (j := 0) (v := q_r (kc + 1)) rfl hk (by decide) (by decide) (fun _ => rfl) hlk d k
theorem gf_6_1 (hK : KOK K cc nL own Ts fr N lo) {kc idx : Nat} (hk : knd kc = 6) (kr : Nat) (hr : kc + 2 = kr) (hlk : Cond.fieldLink own idx "AffixWorks$Steps" "moves" "[I" ∈ Ts) (d : decode cc pc = .ok (.getfield idx, 3)) (k : AW K n (pc + 3) lv (q_r kr :: st) m) : AW K n pc lv (q_r kc :: st) m := by
  subst hr
  exact aw_get hK (c := 6) (j := 1) (v := q_r (kc + 2)) rfl hk (by decide) (by decide) (fun _ => rfl) hlk d k
theorem gf_6_2 (hK : KOK K cc nL own Ts fr N lo) {kc idx : Nat} (hk : knd kc = 6) (hlk : Cond.fieldLink own idx "AffixWorks$Steps" "states" "I" ∈ Ts) (d : decode cc pc = .ok (.getfield idx, 3)) (k : AW K n (pc + 3) lv (q_i (m kc 2) :: st) m) : AW K n pc lv (q_r kc :: st) m := aw_get hK (c := 6) (j := 2) rfl hk (by decide) (by decide) (fun _ => rfl) hlk d k
theorem pf_6_2 (hK : KOK K cc nL own Ts fr N lo) {kc idx : Nat} {x : Int32} (hk : knd kc = 6) (hlk : Cond.fieldLink own idx "AffixWorks$Steps" "states" "I" ∈ Ts) (d : decode cc pc = .ok (.putfield idx, 3)) (k : AW K n (pc + 3) lv st (mup m kc 2 x)) : AW K n pc lv (q_i x :: q_r kc :: st) m := aw_put hK (c := 6) (j := 2) (ty0 := tyX6) (ty := .int) rfl hk (by decide) (by decide) tyX6_ok nmX6 (fun _ _ => rfl) (fun _ _ => Nat.le_of_ble_eq_true rfl) rfl (by decide +kernel) (fun _ => rfl) (fun _ => rfl) hlk d k
theorem gf_6_3 (hK : KOK K cc nL own Ts fr N lo) {kc idx : Nat} (hk : knd kc = 6) (hlk : Cond.fieldLink own idx "AffixWorks$Steps" "ends" "I" ∈ Ts) (d : decode cc pc = .ok (.getfield idx, 3)) (k : AW K n (pc + 3) lv (q_i (m kc 3) :: st) m) : AW K n pc lv (q_r kc :: st) m := aw_get hK (c := 6) (j := 3) rfl hk (by decide) (by decide) (fun _ => rfl) hlk d k
theorem pf_6_3 (hK : KOK K cc nL own Ts fr N lo) {kc idx : Nat} {x : Int32} (hk : knd kc = 6) (hlk : Cond.fieldLink own idx "AffixWorks$Steps" "ends" "I" ∈ Ts) (d : decode cc pc = .ok (.putfield idx, 3)) (k : AW K n (pc + 3) lv st (mup m kc 3 x)) : AW K n pc lv (q_i x :: q_r kc :: st) m := aw_put hK (c := 6) (j := 3) (ty0 := tyX6) (ty := .int) rfl hk (by decide) (by decide) tyX6_ok nmX6 (fun _ _ => rfl) (fun _ _ => Nat.le_of_ble_eq_true rfl) rfl (by decide +kernel) (fun _ => rfl) (fun _ => rfl) hlk d k
theorem gf_7_0 (hK : KOK K cc nL own Ts fr N lo) {kc idx : Nat} (hk : knd kc = 7) (kr : Nat) (hr : kc + 1 = kr) (hlk : Cond.fieldLink own idx "AffixWorks" "letters" "[I" ∈ Ts) (d : decode cc pc = .ok (.getfield idx, 3)) (k : AW K n (pc + 3) lv (q_r kr :: st) m) : AW K n pc lv (q_r kc :: st) m := by
  subst hr
  exact aw_get hK (c := 7) (j := 0) (v := q_r (kc + 1)) rfl hk (by decide) (by decide) (fun _ => rfl) hlk d k
theorem gf_7_1 (hK : KOK K cc nL own Ts fr N lo) {kc idx : Nat} (hk : knd kc = 7) (hlk : Cond.fieldLink own idx "AffixWorks" "length" "I" ∈ Ts) (d : decode cc pc = .ok (.getfield idx, 3)) (k : AW K n (pc + 3) lv (q_i (m kc 1) :: st) m) : AW K n pc lv (q_r kc :: st) m := aw_get hK (c := 7) (j := 1) rfl hk (by decide) (by decide) (fun _ => rfl) hlk d k
theorem pf_7_1 (hK : KOK K cc nL own Ts fr N lo) {kc idx : Nat} {x : Int32} (hk : knd kc = 7) (hlk : Cond.fieldLink own idx "AffixWorks" "length" "I" ∈ Ts) (d : decode cc pc = .ok (.putfield idx, 3)) (k : AW K n (pc + 3) lv st (mup m kc 1 x)) : AW K n pc lv (q_i x :: q_r kc :: st) m := aw_put hK (c := 7) (j := 1) (ty0 := tyX7) (ty := .int) rfl hk (by decide) (by decide) tyX7_ok nmX7 (fun _ _ => rfl) (fun _ _ => Nat.le_of_ble_eq_true rfl) rfl (by decide +kernel) (fun _ => rfl) (fun _ => rfl) hlk d k
theorem gf_7_2 (hK : KOK K cc nL own Ts fr N lo) {kc idx : Nat} (hk : knd kc = 7) (kr : Nat) (hr : kc + 2 = kr) (hlk : Cond.fieldLink own idx "AffixWorks" "machines" "[LAffixWorks$Machine;" ∈ Ts) (d : decode cc pc = .ok (.getfield idx, 3)) (k : AW K n (pc + 3) lv (q_r kr :: st) m) : AW K n pc lv (q_r kc :: st) m := by
  subst hr
  exact aw_get hK (c := 7) (j := 2) (v := q_r (kc + 2)) rfl hk (by decide) (by decide) (fun _ => rfl) hlk d k
theorem gf_7_3 (hK : KOK K cc nL own Ts fr N lo) {kc idx : Nat} (hk : knd kc = 7) (hlk : Cond.fieldLink own idx "AffixWorks" "count" "I" ∈ Ts) (d : decode cc pc = .ok (.getfield idx, 3)) (k : AW K n (pc + 3) lv (q_i (m kc 3) :: st) m) : AW K n pc lv (q_r kc :: st) m := aw_get hK (c := 7) (j := 3) rfl hk (by decide) (by decide) (fun _ => rfl) hlk d k
theorem pf_7_3 (hK : KOK K cc nL own Ts fr N lo) {kc idx : Nat} {x : Int32} (hk : knd kc = 7) (hlk : Cond.fieldLink own idx "AffixWorks" "count" "I" ∈ Ts) (d : decode cc pc = .ok (.putfield idx, 3)) (k : AW K n (pc + 3) lv st (mup m kc 3 x)) : AW K n pc lv (q_i x :: q_r kc :: st) m := aw_put hK (c := 7) (j := 3) (ty0 := tyX7) (ty := .int) rfl hk (by decide) (by decide) tyX7_ok nmX7 (fun _ _ => rfl) (fun _ _ => Nat.le_of_ble_eq_true rfl) rfl (by decide +kernel) (fun _ => rfl) (fun _ => rfl) hlk d k
theorem gf_7_4 (hK : KOK K cc nL own Ts fr N lo) {kc idx : Nat} (hk : knd kc = 7) (kr : Nat) (hr : kc + 3 = kr) (hlk : Cond.fieldLink own idx "AffixWorks" "draft" "LAffixWorks$Draft;" ∈ Ts) (d : decode cc pc = .ok (.getfield idx, 3)) (k : AW K n (pc + 3) lv (q_r kr :: st) m) : AW K n pc lv (q_r kc :: st) m := by
  subst hr
  exact aw_get hK (c := 7) (j := 4) (v := q_r (kc + 3)) rfl hk (by decide) (by decide) (fun _ => rfl) hlk d k
theorem gf_7_5 (hK : KOK K cc nL own Ts fr N lo) {kc idx : Nat} (hk : knd kc = 7) (kr : Nat) (hr : kc + 20 = kr) (hlk : Cond.fieldLink own idx "AffixWorks" "setPairs" "LAffixWorks$SetPairs;" ∈ Ts) (d : decode cc pc = .ok (.getfield idx, 3)) (k : AW K n (pc + 3) lv (q_r kr :: st) m) : AW K n pc lv (q_r kc :: st) m := by
  subst hr
  exact aw_get hK (c := 7) (j := 5) (v := q_r (kc + 20)) rfl hk (by decide) (by decide) (fun _ => rfl) hlk d k
theorem gf_7_6 (hK : KOK K cc nL own Ts fr N lo) {kc idx : Nat} (hk : knd kc = 7) (kr : Nat) (hr : kc + 40 = kr) (hlk : Cond.fieldLink own idx "AffixWorks" "search" "LAffixWorks$Search;" ∈ Ts) (d : decode cc pc = .ok (.getfield idx, 3)) (k : AW K n (pc + 3) lv (q_r kr :: st) m) : AW K n pc lv (q_r kc :: st) m := by
  subst hr
  exact aw_get hK (c := 7) (j := 6) (v := q_r (kc + 40)) rfl hk (by decide) (by decide) (fun _ => rfl) hlk d k
theorem gf_7_7 (hK : KOK K cc nL own Ts fr N lo) {kc idx : Nat} (hk : knd kc = 7) (kr : Nat) (hr : kc + 60 = kr) (hlk : Cond.fieldLink own idx "AffixWorks" "lessons" "LAffixWorks$Lessons;" ∈ Ts) (d : decode cc pc = .ok (.getfield idx, 3)) (k : AW K n (pc + 3) lv (q_r kr :: st) m) : AW K n pc lv (q_r kc :: st) m := by
  subst hr
  exact aw_get hK (c := 7) (j := 7) (v := q_r (kc + 60)) rfl hk (by decide) (by decide) (fun _ => rfl) hlk d k
end ROWS
def cpok (sp dp z : Int32) (n0 n1 : Nat) : Bool := decide (¬ sp < 0 ∧ ¬ dp < 0 ∧ ¬ z < 0 ∧ ix sp + ix z ≤ n0 ∧ ix dp + ix z ≤ n1)
theorem cpok_of {sp dp z : Int32} {n0 n1 : Nat} (h : cpok sp dp z n0 n1 = true) : ¬ sp < 0 ∧ ¬ dp < 0 ∧ ¬ z < 0 ∧ ix sp + ix z ≤ n0 ∧ ix dp + ix z ≤ n1 := of_decide_eq_true h
/-! calls, returns, entries -/
def resV : Option Int32 → List AV
  | none => []
  | some x => [q_i x]
def avArgs : Nat → List AV → List (Nat × AV)
  | _, [] => []
  | i, a :: as => (i, a) :: avArgs (if qcat a = 2 then i + 2 else i + 1) as
theorem avArgs_eq (G : GT) : ∀ (as : List AV) (i : Nat), lv_args i (as.map (toV G)) = (avArgs i as).map fun q => (q.1, toV G q.2)
  | [], _ => rfl
  | a :: as, i => by
    simp only [List.map_cons, lv_args, avArgs, qcat_eq, avArgs_eq G as]
def avLen (as : List AV) : Nat := (as.map qcat).sum
theorem avLen_eq (G : GT) : ∀ as : List AV, (∀ a ∈ as, qcat a ≤ 2 ∧ 1 ≤ qcat a) → (lg_sl (as.map (toV G))).length ≤ avLen as
  | [], _ => Nat.le_refl 0
  | a :: as, h => by
    have ih := avLen_eq G as (fun b hb => h b (List.mem_cons_of_mem _ hb))
    have ha := h a List.mem_cons_self
    simp only [List.map_cons, lg_sl, List.flatMap_cons, List.length_append, avLen, List.sum_cons, qcat_eq] at ih ⊢
    by_cases hc : qcat a = 2
    · rw [if_pos hc]; simp only [List.length_cons, List.length_nil]; omega
    · rw [if_neg hc]; simp only [List.length_cons, List.length_nil]; omega
theorem qcat_ok (a : AV) : qcat a ≤ 2 ∧ 1 ≤ qcat a := by
  rcases a with k | x | v
  · exact ⟨Nat.le_of_ble_eq_true rfl, Nat.le_of_ble_eq_true rfl⟩
  · exact ⟨Nat.le_of_ble_eq_true rfl, Nat.le_of_ble_eq_true rfl⟩
  · cases v <;> exact ⟨Nat.le_of_ble_eq_true rfl, Nat.le_of_ble_eq_true rfl⟩
theorem qsum_eq (G : GT) (st : List AV) : ((st.map (toV G)).map fun v => v.category).sum = (st.map qcat).sum := by
  rw [List.map_map]; congr 1; apply List.map_congr_left; intro a _; exact qcat_eq G a
theorem aw_run {p : Program} {l : Launch} {e : Env} {R : Room} {s : State} {mm : MethodId} {args : Array Value} {below : List Frame} {meth : Method} {c : Code} {G : GT} {A : Nat → Prop} {Z : State → Prop} {H : Heap} {locs : List Loc} {n pc : Nat} {ls : Array Slot} {st0 rest : List Value} {a : Array Value} {r : Option Int32} {m' : Mem}
    (hr : va_Run p l e R s mm args below meth c H locs n (16 * n) 0 0 (F0 mm pc ls st0) rest (QcP G r m' a) (frC G)) (hS : va_S A s.heap H locs) (hA : ∀ k, live G k → A (G.2.2.2 k))
    (kk : ∀ (H1 : Heap) (locs1 : List Loc), va_P (G.1, G.2.1) vwCl (wsOf G m') H1 → va_S A s.heap H1 locs1 → W p l e R s mm args below meth c H1 locs1 n (16 * n) Z (F0 mm (pc + 3) ls ((r.map Value.int).toList ++ rest))) :
    W p l e R s mm args below meth c H locs n (16 * n) Z (F0 mm pc ls st0) := by
  intro T hT X
  obtain ⟨v, st₀, t, T', L, h0, X', hL, e1, e2, ⟨hv, hP, hz, hk⟩, stp⟩ := hr T hT X
  have hv : v = r.map Value.int := Outcome.returned.inj hv
  subst hv
  rw [h0] at hz hk
  have hfA : ∀ q, frC G q → A q := fun q ⟨k, hk, e⟩ => by rw [e]; exact hA k hk
  obtain ⟨t2, a1, b1⟩ := kk T'.heap (locs ++ L) (by rw [e1]; exact hP)
    ⟨Nat.le_trans hS.1 (by rw [e1]; exact hz), fun q h1 h2 => by rw [e1, hk q (Nat.lt_of_lt_of_le h1 hS.1) (fun z => h2 (hfA q z))]; exact hS.2.1 q h1 h2, fun q hq => by
      rcases List.mem_append.mp hq with h | h
      · exact hS.2.2 q h
      · exact hfA _ (hL q h)⟩ T' rfl X'
  exact ⟨t2, stp t2 a1, b1⟩
theorem PcW_of {G : GT} {as : List AV} {m : Mem} {s : State} {H : Heap} (hP : va_P (G.1, G.2.1) vwCl (wsOf G m) H) (hG : GOK G s) : ∀ U : State, U.heap = H → s.WarmedH U.vm → PcW G as m (as.map (toV G)).toArray U :=
  fun U hU hW => ⟨rfl, by rw [hU]; exact hP, hG.moved hW⟩
section CALLS
variable {K : KT} {cc : ByteArray} {nL : Nat} {own : String} {Ts : List Cond} {fr N lo n pc : Nat} {lv : List (Nat × AV)} {st : List AV} {m : Mem}
  {y : MethodName} {ws ws' : List Cond} {bytes : ByteArray} {maxL idx fr' lo' kc na : Nat} {C host : String} {T : u_T} {as : List AV} {r : Option Int32} {m' : Mem} {ret : Option FieldType}
theorem aw_cv (hK : KOK K cc nL own Ts fr N lo) (ci : Nat) {Nf : Nat} (hM : Tr y ws fr' lo' (q_r kc :: as) m r m') (hG : GoodIn Ts (wsV own idx C y ws)) (hw : ws = Cond.code y bytes maxL ret :: ws') (hcl : vwCl[ci]? = some (C, T, Nf)) (hk : knd kc = ci) (h9 : ci < 10)
    (hd : y.cls = C ∧ y.cls ≠ "java/lang/invoke/MethodHandle" ∧ y.cls ≠ "java/lang/invoke/VarHandle" ∧ (parseMethodDescriptor y.desc).map (fun d => d.parameters.length) = some na) (hna : as.length = na) (hR : fr' + 1 ≤ fr ∧ 8 + (maxL + 11) + lo' ≤ lo) (hn : n ≤ N) (hst : (st.map qcat).sum ≤ 8)
    (d : decode cc pc = .ok (.invokevirtual idx, 3)) (k : AW K n (pc + 3) lv (resV r ++ st) m') : AW K n pc lv (as.reverse ++ q_r kc :: st) m := by
  obtain ⟨p, l, e, R, s, mm, args, below, meth, c, G, A, Z⟩ := K
  intro H locs ls hP hS hl
  obtain ⟨hx, hb, hml, hown, hts, hGO, -, hRm, hA⟩ := id hK
  obtain ⟨z, hz⟩ := ws_at (b := flg G) (k := kc) (by omega)
  have run := va_runV (As := as.map (toV G)) (rest := st.map (toV G)) (H := H) (locs := locs) (cells := n) (slots := 16 * n) (g := F0 mm pc ls ((as.reverse ++ q_r kc :: st).map (toV G))) (e := e) (below := below) (meth := meth) ⟨hx, hb, hml, hown, hts⟩ (hM l G) (cwV (R := R) na hts hG hw rfl rfl hd ⟨Nat.le_trans hR.1 hRm.1, Nat.le_trans hR.2 hRm.2.1⟩)
    ⟨PcW_blind _ _ _, va_recv hGO.1 hP hcl (by rw [ws_get hz, cell_o G hk h9]), PcW_of (as := q_r kc :: as) hP hGO⟩ rfl (by rw [List.length_map]; exact hna) (hl.1.trans hml) (by simp [toV]) (lv_room (by rw [qsum_eq]; exact hst)) d ⟨Nat.le_trans hn hRm.2.2.1, Nat.le_trans (Nat.mul_le_mul_left 16 hn) hRm.2.2.2⟩
  refine aw_run run hS hA (fun H1 locs1 hP1 hS1 => ?_)
  have k1 := k H1 locs1 ls hP1 hS1 hl
  cases r with
  | none => exact k1
  | some x => exact k1
theorem aw_cs (hK : KOK K cc nL own Ts fr N lo) (hM : Tr y ws fr' lo' as m r m') (hG : GoodIn Ts (wsS own idx y ws)) (hw : ws = Cond.code y bytes maxL ret :: ws')
    (hd : y.cls = own ∧ y.cls ≠ "java/lang/invoke/MethodHandle" ∧ y.cls ≠ "java/lang/invoke/VarHandle" ∧ (parseMethodDescriptor y.desc).map (fun d => d.parameters.length) = some na) (hna : as.length = na) (hR : fr' + 1 ≤ fr ∧ 8 + (maxL + 11) + lo' ≤ lo) (hn : n ≤ N) (hst : (st.map qcat).sum ≤ 8)
    (d : decode cc pc = .ok (.invokestatic idx, 3)) (k : AW K n (pc + 3) lv (resV r ++ st) m') : AW K n pc lv (as.reverse ++ st) m := by
  obtain ⟨p, l, e, R, s, mm, args, below, meth, c, G, A, Z⟩ := K
  intro H locs ls hP hS hl
  obtain ⟨hx, hb, hml, hown, hts, hGO, -, hRm, hA⟩ := id hK
  have run := va_runS (As := as.map (toV G)) (rest := st.map (toV G)) (H := H) (locs := locs) (cells := n) (slots := 16 * n) (g := F0 mm pc ls ((as.reverse ++ st).map (toV G))) (e := e) (below := below) (meth := meth) ⟨hx, hb, hml, hown, hts⟩ (hM l G) (cwS (R := R) na hts hG hw rfl rfl hd ⟨Nat.le_trans hR.1 hRm.1, Nat.le_trans hR.2 hRm.2.1⟩)
    ⟨PcW_blind _ _ _, PcW_of hP hGO⟩ rfl (by rw [List.length_map]; exact hna) (hl.1.trans hml) (by simp) (lv_room (by rw [qsum_eq]; exact hst)) d ⟨Nat.le_trans hn hRm.2.2.1, Nat.le_trans (Nat.mul_le_mul_left 16 hn) hRm.2.2.2⟩
  refine aw_run run hS hA (fun H1 locs1 hP1 hS1 => ?_)
  have k1 := k H1 locs1 ls hP1 hS1 hl
  cases r with
  | none => exact k1
  | some x => exact k1
theorem aw_csN (hK : KOK K cc nL own Ts fr N lo) (hM : Tr y ws fr' lo' as m r m') (hG : GoodIn Ts ws) (hw : ws = Cond.code y bytes maxL ret :: ws') (hne : (own, idx, y, host) ∈ q_nest) (hini : Cond.initialized y.cls ∈ Ts) (hstt : Cond.static y ∈ Ts)
    (hd : y.cls ≠ "java/lang/invoke/MethodHandle" ∧ y.cls ≠ "java/lang/invoke/VarHandle" ∧ (parseMethodDescriptor y.desc).map (fun d => d.parameters.length) = some na) (hna : as.length = na) (hR : fr' + 1 ≤ fr ∧ 8 + (maxL + 11) + lo' ≤ lo) (hn : n ≤ N) (hst : (st.map qcat).sum ≤ 8)
    (d : decode cc pc = .ok (.invokestatic idx, 3)) (k : AW K n (pc + 3) lv (resV r ++ st) m') : AW K n pc lv (as.reverse ++ st) m := by
  obtain ⟨p, l, e, R, s, mm, args, below, meth, c, G, A, Z⟩ := K
  intro H locs ls hP hS hl
  obtain ⟨hx, hb, hml, hown, hts, hGO, -, hRm, hA⟩ := id hK
  have run := va_runSN (As := as.map (toV G)) (rest := st.map (toV G)) (H := H) (locs := locs) (cells := n) (slots := 16 * n) (g := F0 mm pc ls ((as.reverse ++ st).map (toV G))) (e := e) (below := below) (meth := meth) ⟨hx, hb, hml, hown, hts⟩ (hM l G) ⟨va_cnB (R := R) na hts hG hw rfl rfl (hGO.2.1 _ hne) (hts _ hini) hd ⟨Nat.le_trans hR.1 hRm.1, Nat.le_trans hR.2 hRm.2.1⟩, hts _ hstt, trivial⟩
    ⟨PcW_blind _ _ _, PcW_of hP hGO⟩ rfl (by rw [List.length_map]; exact hna) (hl.1.trans hml) (by simp) (lv_room (by rw [qsum_eq]; exact hst)) d ⟨Nat.le_trans hn hRm.2.2.1, Nat.le_trans (Nat.mul_le_mul_left 16 hn) hRm.2.2.2⟩
  refine aw_run run hS hA (fun H1 locs1 hP1 hS1 => ?_)
  have k1 := k H1 locs1 ls hP1 hS1 hl
  cases r with
  | none => exact k1
  | some x => exact k1
theorem aw_iret (hK : KOK K cc nL own Ts fr N lo) {ty : FieldType} {x : Int32} (hR : KRet K (some ty) (some x) m) (hn : narrow ty (.int x) = .int x) (d : decode cc pc = .ok (.ireturn, 1)) : AW K 0 pc lv [q_i x] m := by
  obtain ⟨p, l, e, R, s, mm, args, below, meth, c, G, A, Z⟩ := K
  intro H locs ls hP hS hl
  obtain ⟨hx, hb, hml, hown, hts, hGO, hlk, hRm, hA⟩ := id hK
  obtain ⟨hret, rfl, rfl⟩ := hR
  exact W.zret hx hb hret hn (fun t ht _ => ⟨rfl, by rw [ht]; exact hP, hS.F ht⟩) hS.2.2 d
theorem aw_vret (hK : KOK K cc nL own Ts fr N lo) (hR : KRet K none none m) (d : decode cc pc = .ok (.return_, 1)) : AW K 0 pc lv [] m := by
  obtain ⟨p, l, e, R, s, mm, args, below, meth, c, G, A, Z⟩ := K
  intro H locs ls hP hS hl
  obtain ⟨hx, hb, hml, hown, hts, hGO, hlk, hRm, hA⟩ := id hK
  obtain ⟨hret, rfl, rfl⟩ := hR
  exact W.vret hx hb hret (fun t ht _ => ⟨rfl, by rw [ht]; exact hP, hS.F ht⟩) hS.2.2 d
theorem aw_mmin (hK : KOK K cc nL own Ts fr N lo) {x y : Int32} (h1 : Cond.methodLink own idx Lib.Math.min.name ∈ Ts) (h2 : Cond.static Lib.Math.min.name ∈ Ts) (h3 : Cond.initialized "java/lang/Math" ∈ Ts) (h4 : Cond.code Lib.Math.min.name Lib.Math.min.code 2 (some .int) ∈ Ts) (hR : 1 ≤ fr ∧ 21 ≤ lo) (hn : n ≤ N) (hst : (st.map qcat).sum ≤ 8)
    (d : decode cc pc = .ok (.invokestatic idx, 3)) (k : AW K n (pc + 3) lv (q_i (if y < x then y else x) :: st) m) : AW K n pc lv (q_i y :: q_i x :: st) m := by
  obtain ⟨p, l, e, R, s, mm, args, below, meth, c, G, A, Z⟩ := K
  intro H locs ls hP hS hl
  obtain ⟨hx, hb, hml, hown, hts, hGO, hlk, hRm, hA⟩ := id hK
  exact va_mmin hx hb hl.1.symm hown (hts _ h1) (hts _ h2) (hts _ h3) (hts _ h4) (Nat.le_trans hR.1 hRm.1) (by rw [qsum_eq]; exact Nat.le_trans (Nat.le_trans (Nat.add_le_add_right hst 13) hR.2) hRm.2.1) (Nat.le_trans hn hRm.2.2.1) (Nat.le_trans (Nat.mul_le_mul_left 16 hn) hRm.2.2.2) d (k H locs ls hP hS hl)
theorem aw_mmax (hK : KOK K cc nL own Ts fr N lo) {x y : Int32} (h1 : Cond.methodLink own idx Lib.Math.max.name ∈ Ts) (h2 : Cond.static Lib.Math.max.name ∈ Ts) (h3 : Cond.initialized "java/lang/Math" ∈ Ts) (h4 : Cond.code Lib.Math.max.name Lib.Math.max.code 2 (some .int) ∈ Ts) (hR : 1 ≤ fr ∧ 21 ≤ lo) (hn : n ≤ N) (hst : (st.map qcat).sum ≤ 8)
    (d : decode cc pc = .ok (.invokestatic idx, 3)) (k : AW K n (pc + 3) lv (q_i (if x < y then y else x) :: st) m) : AW K n pc lv (q_i y :: q_i x :: st) m := by
  obtain ⟨p, l, e, R, s, mm, args, below, meth, c, G, A, Z⟩ := K
  intro H locs ls hP hS hl
  obtain ⟨hx, hb, hml, hown, hts, hGO, hlk, hRm, hA⟩ := id hK
  exact va_mmax hx hb hl.1.symm hown (hts _ h1) (hts _ h2) (hts _ h3) (hts _ h4) (Nat.le_trans hR.1 hRm.1) (by rw [qsum_eq]; exact Nat.le_trans (Nat.le_trans (Nat.add_le_add_right hst 13) hR.2) hRm.2.1) (Nat.le_trans hn hRm.2.2.1) (Nat.le_trans (Nat.mul_le_mul_left 16 hn) hRm.2.2.2) d (k H locs ls hP hS hl)
theorem aw_alen (hK : KOK K cc nL own Ts fr N lo) {kc : Nat} (hk : knd kc = 10) (d : decode cc pc = .ok (.arraylength, 1)) (k : AW K n (pc + 1) lv (q_i (nI (alen kc)) :: st) m) : AW K n pc lv (q_r kc :: st) m := by
  obtain ⟨p, l, e, R, s, mm, args, below, meth, c, G, A, Z⟩ := K
  intro H locs ls hP hS hl
  obtain ⟨hx, hb, hml, hown, hts, hGO, hlk, hRm, hA⟩ := id hK
  obtain ⟨z, hz⟩ := ws_at (b := flg G) (k := kc) (by omega)
  exact va_alen (x := (alen kc, .inl (m kc))) hx hb hGO.1 hP z 0 (by rw [ws_get hz, cell_i G hk]) rfl rfl d (k H locs ls hP hS hl)
theorem aw_copy (hK : KOK K cc nL own Ts fr N lo) {k0 k1 : Nat} {sp dp z : Int32} (h1 : Cond.methodLink own idx arraycopyName ∈ Ts) (h2 : Cond.native arraycopyName ∈ Ts) (h3 : Cond.static arraycopyName ∈ Ts) (h4 : Cond.initialized "java/lang/System" ∈ Ts) (hk0 : knd k0 = 10) (hk1 : knd k1 = 10)
    (hb0 : cpok sp dp z (alen k0) (alen k1) = true) (hR : 1 ≤ fr ∧ 8 + (nativeFrameWords "java/lang/System" "arraycopy" 5 + 11) ≤ lo) (hst : (st.map qcat).sum ≤ 8)
    (d : decode cc pc = .ok (.invokestatic idx, 3)) (k : AW K n (pc + 3) lv st (mrw m k1 (va_cpy (m k0) (m k1) (ix sp) (ix dp) (ix z)))) : AW K n pc lv (q_i z :: q_i dp :: q_r k1 :: q_i sp :: q_r k0 :: st) m := by
  obtain ⟨p, l, e, R, s, mm, args, below, meth, c, G, A, Z⟩ := K
  intro H locs ls hP hS hl
  obtain ⟨hx, hb, hml, hown, hts, hGO, hlk, hRm, hA⟩ := id hK
  obtain ⟨i0, hi0⟩ := ws_at (b := flg G) (k := k0) (by omega)
  obtain ⟨i1, hi1⟩ := ws_at (b := flg G) (k := k1) (by omega)
  obtain ⟨g1, g2, g3, g4, g5⟩ := cpok_of hb0
  refine va_copyi hx hb hl.1.symm hown (hts _ h1) (hts _ h2) (hts _ h3) (hts _ h4) hGO.1 hP (ws_D hGO.2.2.2 hA m) hS i0 i1 0 0 (by rw [ws_get hi0, cell_i G hk0]) (by rw [ws_get hi1, cell_i G hk1]) rfl rfl rfl g1 g2 g3 g4 g5 (fun _ _ => rfl) (Nat.le_trans hR.1 hRm.1) (by rw [qsum_eq]; exact Nat.le_trans (Nat.le_trans (Nat.add_le_add_right hst _) hR.2) hRm.2.1) d (fun H1 locs1 hP1 _ hS1 => k H1 locs1 ls ?_ hS1 hl)
  have e1 : va_cpy (m k0) (m k1) sp.toNatClampNeg dp.toNatClampNeg z.toNatClampNeg = mrw m k1 (va_cpy (m k0) (m k1) (ix sp) (ix dp) (ix z)) k1 := (mrw_k _ _ _).symm
  rw [e1, ← cell_i G hk1, ws_set hi1 (fun k' h => mrw_o m k1 _ h)] at hP1
  exact hP1
theorem tr_of {ret : Option FieldType} (hy : plainName y.cls = true) (hw : ws = Cond.code y bytes maxL ret :: ws') (hlen : avLen as ≤ maxL) (h : ∀ K, KOK K bytes maxL y.cls ws fr 0 lo → KRet K ret r m' → AW K 0 0 (avArgs 0 as) [] m) : Tr y ws fr lo as m r m' := by
  intro l G
  refine Met.ofW (cc := bytes) (maxL := maxL) (ret := ret) hy hw ?_
  intro p e s mm args below meth c s₁ B hml hv
  obtain ⟨rfl, hP, hG⟩ := hv
  have hown : s.vm.findClass y.cls = some mm.cls := findClass_of_methodNamed B.named
  have hts := atoms_spec (ws := ws) B.pre
  have h1 := h (p, l, e, ({ frames := fr, cells := 0, slots := 0, locals := lo } : Room), s, mm, _, below, meth, c, G, frC G, MQ below (QcP G r m') _ s 0 0 (frC G)) ⟨B.exec, B.bytes, hml, hown, hts, hG, B.notSynchronized, ⟨Nat.le_refl _, Nat.le_refl _, Nat.zero_le _, Nat.zero_le _⟩, fun k hk => ⟨k, hk, rfl⟩⟩ ⟨B.returns, rfl, rfl⟩
  have hl := lv_entry (as.map (toV G)) (n := maxL) (Nat.le_trans (avLen_eq G as (fun a _ => qcat_ok a)) hlen)
  rw [lg_entry_eq]
  rw [avArgs_eq] at hl
  exact h1 s.heap [] _ hP va_S.rf (by rw [hml]; exact hl)
end CALLS
