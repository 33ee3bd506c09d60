/-! methods that throw -/
def exN : Nat → String
  | 0 => "java/lang/IllegalArgumentException"
  | 1 => "java/lang/IllegalStateException"
  | _ => "java/lang/IndexOutOfBoundsException"
abbrev exU : List String := ["java/lang/RuntimeException", "java/lang/Exception"]
def exY : List String := ["java/lang/RuntimeException", "java/lang/Exception", "java/lang/Throwable"]
def q_strs : List (Nat × String) := [(61, "no such letter"), (68, "the word is full"), (74, "no such cost"), (113, "it relates something to the empty word"), (145, "two arcs cost too much together"), (183, "there would be a way back with empty lower letters"), (203, "no such state"), (213, "no such arc"), (215, "an arc has no such thing"), (224, "no such answer"), (266, "no such rule"), (268, "no such place"), (270, "there are too many sets of states"), (272, "the machine has too many states"), (274, "no such machine"), (276, "the machine is not plain"), (278, "there are too many machines"), (283, "the machine is too large")]
def frX (G : GT) (sz : Nat) : Nat → Prop := fun q => frC G q ∨ sz ≤ q
def GX (A : Nat → Prop) (U : State) (H : Heap) : Prop :=
  vx_Zq Bundle.tN "UNASSIGNED_STACK" Bundle.steD A U H ∧ vx_Zq Bundle.tN "SUPPRESSED_SENTINEL" Bundle.listD A U H ∧ (∀ q ∈ q_strs, ∃ a, vk_R "AffixWorks" q.1 q.2 a U) ∧ (∀ x, x < 3 → va_Nw (.castable (exN x) (exN x)) U) ∧ (∀ x, x < 3 → ∀ y, y < 3 → x ≠ y → va_Nc (exN x) (exN y) U) ∧ (∀ Y ∈ exY, va_Nw (.declares (Bundle.initS Y)) U)
def exB (x : Nat) : List Cond := [.castable (exN x) (exN x), .declares (Bundle.initS "java/lang/RuntimeException"), .declares (Bundle.initS "java/lang/Exception"), .declares (Bundle.initS "java/lang/Throwable")]
theorem GX.moved {A : Nat → Prop} {s U : State} {H : Heap} (h : GX A s H) (hW : s.WarmedH U.vm) : GX A U H :=
  ⟨h.1.moved hW.alike, h.2.1.moved hW.alike, fun q hq => ⟨_, (h.2.2.1 q hq).choose_spec.warm hW⟩, fun x hx => va_Nw.warmC hW (h.2.2.2.1 x hx), fun x hx y hy e => (h.2.2.2.2.1 x hx y hy e).moved hW.alike, fun Y hY => va_Nw.warmD hW (h.2.2.2.2.2 Y hY)⟩
theorem GX.kept {A : Nat → Prop} {U : State} {H H1 : Heap} (h : GX A U H) (hq : ∀ a : Nat, a < H.size → ¬ A a → H1[a]? = H[a]?) : GX A U H1 :=
  ⟨h.1.kept hq, h.2.1.kept hq, h.2.2⟩
theorem GX.narrow {A B : Nat → Prop} {U : State} {H : Heap} (h : GX A U H) (hAB : ∀ q, B q → A q) : GX B U H :=
  ⟨h.1.narrow hAB, h.2.1.narrow hAB, h.2.2⟩
theorem GX.calling {A : Nat → Prop} {U : State} {H : Heap} (h : GX A U H) (g : JFrame) (mk : MethodId) (a : Array Value) : GX A (U.calling g mk a) H :=
  ⟨vx_Zq.moved (u := U) (U := U.calling g mk a) (Vm.Alike.refl U.vm) h.1, vx_Zq.moved (u := U) (U := U.calling g mk a) (Vm.Alike.refl U.vm) h.2.1, fun q hq => ⟨_, vk_R.same (u := U) (U := U.calling g mk a) rfl (h.2.2.1 q hq).choose_spec⟩, fun x hx => va_Nw.same (u := U) (U := U.calling g mk a) rfl rfl (h.2.2.2.1 x hx), fun x hx y hy e => va_Nc.moved (u := U) (U := U.calling g mk a) (Vm.Alike.refl U.vm) (h.2.2.2.2.1 x hx y hy e), fun Y hY => va_Nw.same (u := U) (U := U.calling g mk a) rfl rfl (h.2.2.2.2.2 Y hY)⟩
theorem GX.extra {A : Nat → Prop} {U : State} {H : Heap} {args : Array Value} (h : GX A U H) {x : Nat} (hx : x < 3) : ∀ w ∈ exB x, w.before args U = true := by
  intro w hw
  have hd : ∀ Y ∈ exY, (Cond.declares (Bundle.initS Y)).before args U = true := fun Y hY => va_Nw.use rfl (h.2.2.2.2.2 Y hY)
  simp only [exB, List.mem_cons, List.not_mem_nil, or_false] at hw
  rcases hw with rfl | rfl | rfl | rfl
  · exact va_Nw.use rfl (h.2.2.2.1 x hx)
  · exact hd _ (by simp [exY])
  · exact hd _ (by simp [exY])
  · exact hd _ (by simp [exY])
def QcX (G : GT) (sz : Nat) (res : Option Int32 ⊕ Nat) (m' : Mem) : Array Value → State → Outcome → State → Prop := fun _ st oc t =>
  ∃ r, res = .inl r ∧ oc = .returned (r.map Value.int) ∧ va_P (G.1, G.2.1) vwCl (wsOf G m') t.heap ∧ va_F (frX G sz) st t
def XcX (G : GT) (sz : Nat) (res : Option Int32 ⊕ Nat) (m' : Mem) : String → State → State → Prop := fun E st t =>
  ∃ x, res = .inr x ∧ E = exN x ∧ va_P (G.1, G.2.1) vwCl (wsOf G m') t.heap ∧ va_F (frX G sz) st t
def PcX (G : GT) (sz : Nat) (as : List AV) (m : Mem) : Array Value → State → Prop := va_Pc (as.map (toV G)) (fun U => va_P (G.1, G.2.1) vwCl (wsOf G m) U.heap ∧ GOK G U ∧ U.heap.size = sz ∧ GX (frX G sz) U U.heap)
theorem PcX_blind (G : GT) (sz : Nat) (as : List AV) (m : Mem) : FrameBlind (PcX G sz as m) := fun a U g mk h => ⟨h.1, h.2.1, h.2.2.1.calling g mk a, h.2.2.2.1, h.2.2.2.2.calling g mk a⟩
/-- the contract of a method that may throw (its numbers: budget N of cells) -/
def TrX (y : MethodName) (ws : List Cond) (fr lo N : Nat) (as : List AV) (m : Mem) (res : Option Int32 ⊕ Nat) (m' : Mem) : Prop :=
  ∀ (l : Launch) (G : GT) (sz : Nat), l.stackTraces = false → vx_Met l y ws { frames := fr, cells := N, slots := 16 * N, locals := lo } (PcX G sz as m) (QcX G sz res m') (XcX G sz res m') N (16 * N) (frX G sz)
/-- the method's end may be a throw -/
def KX : KT → Option FieldType → (Option Int32 ⊕ Nat) → Mem → Nat → Prop
  | (_, l, _, _, s, _, args, below, meth, c, G, A, Z), ret, res, m', N =>
    meth.sig.returnType = ret ∧ A = frX G s.heap.size ∧ Z = vx_MQ below (QcX G s.heap.size res m') (XcX G s.heap.size res m') args s N (16 * N) (frX G s.heap.size) ∧ l.stackTraces = false ∧ GX (frX G s.heap.size) s s.heap ∧ ∀ x ∈ c.exceptionTable.toList, False
def KB : KT → Prop
  | (_, l, _, _, s, _, _, _, _, _, G, A, _) => A = frX G s.heap.size ∧ l.stackTraces = false ∧ GX (frX G s.heap.size) s s.heap
theorem kxb {K : KT} {ret : Option FieldType} {res : Option Int32 ⊕ Nat} {m' : Mem} {N : Nat} (h : KX K ret res m' N) : KB K := by
  obtain ⟨p, l, e, R, s, mm, args, below, meth, c, G, A, Z⟩ := K
  exact ⟨h.2.1, h.2.2.2.1, h.2.2.2.2.1⟩
/-! programs that throw -/
def calx {α β : Type} (o : Option ((α ⊕ Nat) × Mem)) (f : α → Mem → Option ((β ⊕ Nat) × Mem)) : Option ((β ⊕ Nat) × Mem) := match o with
  | some (.inl r, m) => f r m
  | some (.inr x, m) => some (.inr x, m)
  | none => none
theorem calx_some {α β : Type} {o : Option ((α ⊕ Nat) × Mem)} {f : α → Mem → Option ((β ⊕ Nat) × Mem)} {r : (β ⊕ Nat) × Mem} (h : calx o f = some r) : (∃ x m, o = some (.inl x, m) ∧ f x m = some r) ∨ (∃ x m, o = some (.inr x, m) ∧ r = (.inr x, m)) := by
  rcases o with _ | ⟨x | x, m⟩
  · cases h
  · exact Or.inl ⟨x, m, rfl, h⟩
  · exact Or.inr ⟨x, m, rfl, (Option.some.inj h).symm⟩
def xo : Bool → Int32 ⊕ Nat → Option Int32 ⊕ Nat
  | true, .inl x => .inl (some x)
  | true, .inr x => .inr x
  | false, .inl _ => .inl none
  | false, .inr x => .inr x
theorem frX_A {G : GT} {sz : Nat} {k : Nat} (h : live G k) : frX G sz (G.2.2.2 k) := Or.inl ⟨k, h, rfl⟩
section XROWS
variable {K : KT} {cc : ByteArray} {nL : Nat} {own : String} {Ts : List Cond} {fr N lo n pc : Nat} {lv : List (Nat × AV)} {st : List AV} {m : Mem}
  {y : MethodName} {ws ws' : List Cond} {bytes : ByteArray} {maxL idx fr' lo' kc na N' : Nat} {C host : String} {T : u_T} {as : List AV} {r : Option Int32} {m1 m' : Mem} {ret : Option FieldType} {res : Option Int32 ⊕ Nat}
theorem aw_wd {n' : Nat} (h : n ≤ n') (k : AW K n' pc lv st m) : AW K n pc lv st m := by
  obtain ⟨p, l, e, R, s, mm, args, below, meth, c, G, A, Z⟩ := K
  intro H locs ls hP hS hl
  exact W.widen h (Nat.mul_le_mul_left 16 h) (k H locs ls hP hS hl)
theorem aw_tin (hK : KOK K cc nL own Ts fr N lo) {x : Int32} {dflt lw hi : Int} {offs : Array Int} {len : Nat} (v : Int32) (off : Int) (tgt : Nat) (hx : x = v) (h1 : ¬ v.toInt < lw) (h2 : ¬ hi < v.toInt) (ho : offs[(v.toInt - lw).toNat]? = some off) (ht : (pc : Int) + off = (tgt : Int)) (d : decode cc pc = .ok (.tableswitch dflt lw hi offs, len)) (k : AW K n tgt lv st m) : AW K n pc lv (q_i x :: st) m := by
  subst hx
  obtain ⟨p, l, e, R, s, mm, args, below, meth, c, G, A, Z⟩ := K
  intro H locs ls hP hS hl
  exact lv_tableIn hK.1 hK.2.1 d h1 h2 ho ht (k H locs ls hP hS hl)
theorem aw_tout (hK : KOK K cc nL own Ts fr N lo) {x : Int32} {dflt lw hi : Int} {offs : Array Int} {len : Nat} (tgt : Nat) (h : x.toInt < lw ∨ hi < x.toInt) (ht : (pc : Int) + dflt = (tgt : Int)) (d : decode cc pc = .ok (.tableswitch dflt lw hi offs, len)) (k : AW K n tgt lv st m) : AW K n pc lv (q_i x :: st) m := by
  obtain ⟨p, l, e, R, s, mm, args, below, meth, c, G, A, Z⟩ := K
  intro H locs ls hP hS hl
  exact lv_tableOut hK.1 hK.2.1 d h ht (k H locs ls hP hS hl)
theorem tsw_out {x : Int32} {z : Nat} (hz : z < 2 ^ 31) (h : ∀ k, k < z + 1 → ¬ x = nI k) : x.toInt < 0 ∨ (z : Int) < x.toInt := by
  by_cases q : x.toInt < 0
  · exact Or.inl q
  · by_cases q2 : (z : Int) < x.toInt
    · exact Or.inr q2
    · refine absurd ?_ (h x.toInt.toNat (by omega))
      apply Int32.toInt_inj.mp
      rw [nI_toInt (by omega)]
      omega
theorem aw_iretX (hK : KOK K cc nL own Ts fr N lo) {ty : FieldType} {x : Int32} (hR : KX K (some ty) (.inl (some x)) m N) (hn : narrow ty (.int x) = .int x) (hN : n ≤ N) (d : decode cc pc = .ok (.ireturn, 1)) : AW K n pc lv [q_i x] m := by
  obtain ⟨p, l, e, R, s, mm, args, below, meth, c, G, A, Z⟩ := K
  intro H locs ls hP hS hl
  obtain ⟨hx, hb, hml, hown, hts, hGO, hlk, hRm, hA⟩ := id hK
  obtain ⟨hret, rfl, rfl, -⟩ := hR
  exact vx_ret (W.widen hN (Nat.mul_le_mul_left 16 hN) (W.zret hx hb hret hn (fun t ht _ => ⟨some x, rfl, rfl, by rw [ht]; exact hP, hS.F ht⟩) hS.2.2 d))
theorem aw_vretX (hK : KOK K cc nL own Ts fr N lo) (hR : KX K none (.inl none) m N) (hN : n ≤ N) (d : decode cc pc = .ok (.return_, 1)) : AW K n pc lv [] m := by
  obtain ⟨p, l, e, R, s, mm, args, below, meth, c, G, A, Z⟩ := K
  intro H locs ls hP hS hl
  obtain ⟨hx, hb, hml, hown, hts, hGO, hlk, hRm, hA⟩ := id hK
  obtain ⟨hret, rfl, rfl, -⟩ := hR
  exact vx_ret (W.widen hN (Nat.mul_le_mul_left 16 hN) (W.vret hx hb hret (fun t ht _ => ⟨none, rfl, rfl, by rw [ht]; exact hP, hS.F ht⟩) hS.2.2 d))
theorem GX.here {G : GT} {s U : State} {H : Heap} {locs : List Loc} (h : GX (frX G s.heap.size) s s.heap) (hS : va_S (frX G s.heap.size) s.heap H locs) (hU : U.heap = H) (hW : s.WarmedH U.vm) : GX (frX G H.size) U U.heap := by
  rw [hU]
  exact ((h.kept hS.2.1).narrow (fun q hq => hq.elim Or.inl (fun z => Or.inr (Nat.le_trans hS.1 z)))).moved hW
theorem va_P_keep {G : GT} {m : Mem} {H H1 : Heap} (hP : va_P (G.1, G.2.1) vwCl (wsOf G m) H) (h : ∀ q : Nat, q < H.size → H1[q]? = H[q]?) : va_P (G.1, G.2.1) vwCl (wsOf G m) H1 :=
  va_P.kept hP (fun k q hq => h _ (hP k q hq).lt)
theorem aw_throw {is ik ic x : Nat} {text : String} (hK : KOK K cc nL RX7 Ts fr N lo) (hR : KX K ret (.inr x) m N) (hx3 : x < 3) (hk : Cond.classLink RX7 ik (exN x) ∈ Ts) (hini : Cond.initialized (exN x) ∈ Ts) (hstr : (is, text) ∈ q_strs) (hat : ∀ w ∈ (vx_atS RX7 ic (exN x) exU).filter goodWord, w ∈ Ts)
    (hat2 : ∀ w ∈ (vx_atS RX7 ic (exN x) exU).filter (fun w => !goodWord w), w ∈ exB x) (hgood : ∀ w ∈ Cond.classLink RX7 ik (exN x) :: Cond.initialized (exN x) :: vx_atS RX7 ic (exN x) exU, vx_ot w = true)
    (hfit : Bundle.fit (exN x) = true) (hR6 : 6 ≤ fr ∧ 90 ≤ lo) (hN : n + 1 ≤ N) (hst : (st.map qcat).sum ≤ 8)
    (d0 : decode cc pc = .ok (.new ik, 3)) (d3 : decode cc (pc + 3) = .ok (.dup, 1)) (d4 : decode cc (pc + 4) = .ok (.ldc is, 2)) (d6 : decode cc (pc + 6) = .ok (.invokespecial ic, 3)) (d9 : decode cc (pc + 9) = .ok (.athrow, 1)) : AW K n pc lv st m := by
  obtain ⟨p, l, e, R, s, mm, args, below, meth, c, G, A, Z⟩ := K
  intro H locs ls hP hS hl
  obtain ⟨hx, hb, hml, hown, hts, hGO, hlk, hRm, hA⟩ := id hK
  obtain ⟨hret, rfl, rfl, htr, hGX, htab⟩ := hR
  obtain ⟨sa, hsa⟩ := hGX.2.2.1 _ hstr
  refine vx_throwS hx hb htr hown hfit (by decide) (hts _ hk) (hts _ hini) hsa ?_ hgood hGX.1 hGX.2.1 hS hl.1 d0 d3 d4 d6 d9 (fun z hz => (htab z hz).elim) (Nat.lt_of_lt_of_le (Nat.lt_of_lt_of_le (by decide) hR6.1) hRm.1) ?_ (Nat.le_trans hN hRm.2.2.1) (Nat.le_trans (by omega) (Nat.le_trans (Nat.mul_le_mul_left 16 hN) hRm.2.2.2)) hlk ?_ hS.2.2 hN (by omega)
  · exact vx_hat (fun w hw => hts _ (hat w hw)) hat2 (hGX.extra hx3)
  · rw [qsum_eq]
    have h1 : (st.map qcat).sum + 82 ≤ lo := by omega
    exact Nat.le_trans h1 hRm.2.1
  · intro t _ hz hk
    refine ⟨x, rfl, rfl, va_P_keep hP hk, Nat.le_trans hS.1 hz, fun q h1 h2 => ?_⟩
    rw [hk q (Nat.lt_of_lt_of_le h1 hS.1)]
    exact hS.2.1 q h1 h2
theorem aw_throwW {is ik ic x : Nat} {text : String} (hK : KOK K cc nL RX7 Ts fr N lo) (hR : KX K ret (.inr x) m N) (hx3 : x < 3) (hk : Cond.classLink RX7 ik (exN x) ∈ Ts) (hini : Cond.initialized (exN x) ∈ Ts) (hstr : (is, text) ∈ q_strs) (hat : ∀ w ∈ (vx_atS RX7 ic (exN x) exU).filter goodWord, w ∈ Ts)
    (hat2 : ∀ w ∈ (vx_atS RX7 ic (exN x) exU).filter (fun w => !goodWord w), w ∈ exB x) (hgood : ∀ w ∈ Cond.classLink RX7 ik (exN x) :: Cond.initialized (exN x) :: vx_atS RX7 ic (exN x) exU, vx_ot w = true)
    (hfit : Bundle.fit (exN x) = true) (hR6 : 6 ≤ fr ∧ 90 ≤ lo) (hN : n + 1 ≤ N) (hst : (st.map qcat).sum ≤ 8)
    (d0 : decode cc pc = .ok (.new ik, 3)) (d3 : decode cc (pc + 3) = .ok (.dup, 1)) (d4 : decode cc (pc + 4) = .ok (.ldc_w is, 3)) (d6 : decode cc (pc + 7) = .ok (.invokespecial ic, 3)) (d9 : decode cc (pc + 10) = .ok (.athrow, 1)) : AW K n pc lv st m := by
  obtain ⟨p, l, e, R, s, mm, args, below, meth, c, G, A, Z⟩ := K
  intro H locs ls hP hS hl
  obtain ⟨hx, hb, hml, hown, hts, hGO, hlk, hRm, hA⟩ := id hK
  obtain ⟨hret, rfl, rfl, htr, hGX, htab⟩ := hR
  obtain ⟨sa, hsa⟩ := hGX.2.2.1 _ hstr
  refine vx_throwSW hx hb htr hown hfit (by decide) (hts _ hk) (hts _ hini) hsa ?_ hgood hGX.1 hGX.2.1 hS hl.1 d0 d3 d4 d6 d9 (fun z hz => (htab z hz).elim) (Nat.lt_of_lt_of_le (Nat.lt_of_lt_of_le (by decide) hR6.1) hRm.1) ?_ (Nat.le_trans hN hRm.2.2.1) (Nat.le_trans (by omega) (Nat.le_trans (Nat.mul_le_mul_left 16 hN) hRm.2.2.2)) hlk ?_ hS.2.2 hN (by omega)
  · exact vx_hat (fun w hw => hts _ (hat w hw)) hat2 (hGX.extra hx3)
  · rw [qsum_eq]
    have h1 : (st.map qcat).sum + 82 ≤ lo := by omega
    exact Nat.le_trans h1 hRm.2.1
  · intro t _ hz hk
    refine ⟨x, rfl, rfl, va_P_keep hP hk, Nat.le_trans hS.1 hz, fun q h1 h2 => ?_⟩
    rw [hk q (Nat.lt_of_lt_of_le h1 hS.1)]
    exact hS.2.1 q h1 h2
/-- behind a call that may throw: it returned -/
theorem aw_runXr {p : Program} {l : Launch} {e : Env} {R : Room} {s : State} {mm : MethodId} {args : Array Value} {below : List Frame} {meth : Method} {c : Code} {G : GT} {Z : State → Prop} {H : Heap} {locs : List Loc} {n pc N' : Nat} {ls : Array Slot} {st0 rest : List Value} {a : Array Value} {r : Option Int32} {m' : Mem}
    (hr : vx_Run p l e R s mm args below meth c H locs n (16 * n) N' (16 * N') (F0 mm pc ls st0) rest (QcX G H.size (.inl r) m' a) (XcX G H.size (.inl r) m') (frX G H.size)) (hS : va_S (frX G s.heap.size) s.heap H locs)
    (kk : ∀ (H1 : Heap) (locs1 : List Loc), va_P (G.1, G.2.1) vwCl (wsOf G m') H1 → va_S (frX G s.heap.size) s.heap H1 locs1 → W p l e R s mm args below meth c H1 locs1 (n + N') (16 * (n + N')) Z (F0 mm (pc + 3) ls ((r.map Value.int).toList ++ rest))) :
    W p l e R s mm args below meth c H locs n (16 * n) Z (F0 mm pc ls st0) := by
  have hfA : ∀ q, frX G H.size q → frX G s.heap.size q := fun q hq => hq.elim Or.inl (fun z => Or.inr (Nat.le_trans hS.1 z))
  intro T hT X
  rcases hr T hT X with ⟨v, st₀, t, T', L, h0, X', hL, e1, e2, ⟨r', hr', hv, hP, hF⟩, stp⟩ | ⟨q, st₀, t, T', L, E, ce, h0, X', hL, e1, e2, ⟨x, hx, -⟩, -⟩
  · cases hr'
    have hv : v = r.map Value.int := Outcome.returned.inj hv
    subst hv
    obtain ⟨-, -, k3⟩ := vx_keep h0 e1 hS (fun q _ h => hfA q h) hfA hL hF
    have X' : Stand p l e R s mm args below meth c T' (locs ++ L) (n + N') (16 * (n + N')) := by rw [Nat.mul_add]; exact X'
    obtain ⟨t2, a1, b1⟩ := kk T'.heap (locs ++ L) (by rw [e1]; exact hP) k3 T' rfl X'
    exact ⟨t2, stp t2 a1, b1⟩
  · cases hx
/-- .. it threw -/
theorem aw_runXx {p : Program} {l : Launch} {e : Env} {R : Room} {s : State} {mm : MethodId} {args : Array Value} {below : List Frame} {meth : Method} {c : Code} {G : GT} {Z : State → Prop} {H : Heap} {locs : List Loc} {n pc N' x : Nat} {ls : Array Slot} {st0 rest : List Value} {a : Array Value} {m' : Mem}
    (hr : vx_Run p l e R s mm args below meth c H locs n (16 * n) N' (16 * N') (F0 mm pc ls st0) rest (QcX G H.size (.inr x) m' a) (XcX G H.size (.inr x) m') (frX G H.size)) (hS : va_S (frX G s.heap.size) s.heap H locs)
    (kk : ∀ (H1 : Heap) (locs1 : List Loc) (q : Addr) (ce : Cell), va_P (G.1, G.2.1) vwCl (wsOf G m') H1 → va_S (frX G s.heap.size) s.heap H1 locs1 → H1[q]? = some ce → ce.vm = .none → s.vm.findClass (exN x) = some ce.cls → vx_W p l e R s mm args below meth c H1 locs1 (n + N') (16 * (n + N')) Z (F0 mm pc ls rest) q) :
    W p l e R s mm args below meth c H locs n (16 * n) Z (F0 mm pc ls st0) := by
  have hfA : ∀ q, frX G H.size q → frX G s.heap.size q := fun q hq => hq.elim Or.inl (fun z => Or.inr (Nat.le_trans hS.1 z))
  intro T hT X
  rcases hr T hT X with ⟨v, st₀, t, T', L, h0, X', hL, e1, e2, ⟨r', hr', hv, hP, hF⟩, stp⟩ | ⟨q, st₀, t, T', L, E, ce, h0, X', hL, e1, e2, ⟨x', hx, hE, hP, hF⟩, hce, hcv, hcl, stp⟩
  · cases hr'
  · cases hx
    subst hE
    obtain ⟨-, -, k3⟩ := vx_keep h0 e1 hS (fun q _ h => hfA q h) hfA hL hF
    have X' : Stand p l e R s mm args below meth c T' (locs ++ L) (n + N') (16 * (n + N')) := by rw [Nat.mul_add]; exact X'
    obtain ⟨t2, a1, b1⟩ := kk T'.heap (locs ++ L) q ce (by rw [e1]; exact hP) k3 (by rw [e1]; exact hce) hcv hcl T' rfl X'
    exact ⟨t2, stp.trans a1, b1⟩
theorem PcX_of {G : GT} {as : List AV} {m : Mem} {s : State} {H : Heap} {locs : List Loc} (hP : va_P (G.1, G.2.1) vwCl (wsOf G m) H) (hG : GOK G s) (hX : GX (frX G s.heap.size) s s.heap) (hS : va_S (frX G s.heap.size) s.heap H locs) : ∀ U : State, U.heap = H → s.WarmedH U.vm → PcX G H.size as m (as.map (toV G)).toArray U :=
  fun U hU hW => ⟨rfl, by rw [hU]; exact hP, hG.moved hW, by rw [hU], hX.here hS hU hW⟩
section XC
variable {p : Program} {l : Launch} {e : Env} {R : Room} {s : State} {mm : MethodId} {args : Array Value} {below : List Frame} {meth : Method} {c : Code} {G : GT} {A : Nat → Prop} {Z : State → Prop} {H : Heap} {locs : List Loc} {ls : Array Slot}
theorem xrun_cv (hK : KOK (p, l, e, R, s, mm, args, below, meth, c, G, A, Z) cc nL own Ts fr N lo) (htr : l.stackTraces = false) (hGX : GX (frX G s.heap.size) s s.heap) (ci : Nat) {Nf : Nat} (hM : TrX y ws fr' lo' N' (q_r kc :: as) m res m1) (hG : GoodIn Ts (wsV own idx C y ws)) (hw : ws = Cond.code y bytes maxL ret :: ws') (hcl : vwCl[ci]? = some (C, T, Nf)) (hk : knd kc = ci) (h9 : ci < 10)
    (hd : y.cls = C ∧ y.cls ≠ "java/lang/invoke/MethodHandle" ∧ y.cls ≠ "java/lang/invoke/VarHandle" ∧ (parseMethodDescriptor y.desc).map (fun d => d.parameters.length) = some na) (hna : as.length = na) (hR : fr' + 1 ≤ fr ∧ 8 + (maxL + 11) + lo' ≤ lo) (hn : n + N' ≤ N) (hst : (st.map qcat).sum ≤ 8)
    (d : decode cc pc = .ok (.invokevirtual idx, 3)) (hP : va_P (G.1, G.2.1) vwCl (wsOf G m) H) (hS : va_S (frX G s.heap.size) s.heap H locs) (hl : ls.size = c.maxLocals) :
    vx_Run p l e R s mm args below meth c H locs n (16 * n) N' (16 * N') (F0 mm pc ls ((as.reverse ++ q_r kc :: st).map (toV G))) (st.map (toV G)) (QcX G H.size res m1 (((q_r kc :: as).map (toV G))).toArray) (XcX G H.size res m1) (frX G H.size) := by
  obtain ⟨hx, hb, hml, hown, hts, hGO, -, hRm, hA⟩ := id hK
  obtain ⟨z, hz⟩ := ws_at (b := flg G) (k := kc) (by omega)
  exact vx_runV (As := as.map (toV G)) (rest := st.map (toV G)) (H := H) (locs := locs) (cells := n) (slots := 16 * n) (g := F0 mm pc ls ((as.reverse ++ q_r kc :: st).map (toV G))) (e := e) (below := below) (meth := meth) ⟨hx, hb, hml, hown, hts⟩ (hM l G H.size htr) (cwV (R := R) na hts hG hw rfl rfl hd ⟨Nat.le_trans hR.1 hRm.1, Nat.le_trans hR.2 hRm.2.1⟩)
    ⟨PcX_blind _ _ _ _, va_recv hGO.1 hP hcl (by rw [ws_get hz, cell_o G hk h9]), PcX_of (as := q_r kc :: as) hP hGO hGX hS⟩ rfl (by rw [List.length_map]; exact hna) (hl.trans hml) (by simp [toV]) (lv_room (by rw [qsum_eq]; exact hst)) d ⟨Nat.le_trans hn hRm.2.2.1, Nat.le_trans (by rw [← Nat.mul_add]; exact Nat.mul_le_mul_left 16 hn) hRm.2.2.2⟩
theorem xrun_cs (hK : KOK (p, l, e, R, s, mm, args, below, meth, c, G, A, Z) cc nL own Ts fr N lo) (htr : l.stackTraces = false) (hGX : GX (frX G s.heap.size) s s.heap) (hM : TrX y ws fr' lo' N' as m res m1) (hG : GoodIn Ts (wsS own idx y ws)) (hw : ws = Cond.code y bytes maxL ret :: ws')
    (hd : y.cls = own ∧ y.cls ≠ "java/lang/invoke/MethodHandle" ∧ y.cls ≠ "java/lang/invoke/VarHandle" ∧ (parseMethodDescriptor y.desc).map (fun d => d.parameters.length) = some na) (hna : as.length = na) (hR : fr' + 1 ≤ fr ∧ 8 + (maxL + 11) + lo' ≤ lo) (hn : n + N' ≤ N) (hst : (st.map qcat).sum ≤ 8)
    (d : decode cc pc = .ok (.invokestatic idx, 3)) (hP : va_P (G.1, G.2.1) vwCl (wsOf G m) H) (hS : va_S (frX G s.heap.size) s.heap H locs) (hl : ls.size = c.maxLocals) :
    vx_Run p l e R s mm args below meth c H locs n (16 * n) N' (16 * N') (F0 mm pc ls ((as.reverse ++ st).map (toV G))) (st.map (toV G)) (QcX G H.size res m1 ((as.map (toV G))).toArray) (XcX G H.size res m1) (frX G H.size) := by
  obtain ⟨hx, hb, hml, hown, hts, hGO, -, hRm, hA⟩ := id hK
  exact vx_runS (As := as.map (toV G)) (rest := st.map (toV G)) (H := H) (locs := locs) (cells := n) (slots := 16 * n) (g := F0 mm pc ls ((as.reverse ++ st).map (toV G))) (e := e) (below := below) (meth := meth) ⟨hx, hb, hml, hown, hts⟩ (hM l G H.size htr) (cwS (R := R) na hts hG hw rfl rfl hd ⟨Nat.le_trans hR.1 hRm.1, Nat.le_trans hR.2 hRm.2.1⟩)
    ⟨PcX_blind _ _ _ _, PcX_of hP hGO hGX hS⟩ rfl (by rw [List.length_map]; exact hna) (hl.trans hml) (by simp) (lv_room (by rw [qsum_eq]; exact hst)) d ⟨Nat.le_trans hn hRm.2.2.1, Nat.le_trans (by rw [← Nat.mul_add]; exact Nat.mul_le_mul_left 16 hn) hRm.2.2.2⟩
end XC
theorem aw_cvXr (hK : KOK K cc nL own Ts fr N lo) (hR0 : KB K) (ci : Nat) {Nf : Nat} (hM : TrX y ws fr' lo' N' (q_r kc :: as) m (.inl r) m1) (hG : GoodIn Ts (wsV own idx C y ws)) (hw : ws = Cond.code y bytes maxL ret :: ws') (hcl : vwCl[ci]? = some (C, T, Nf)) (hk : knd kc = ci) (h9 : ci < 10)
    (hd : y.cls = C ∧ y.cls ≠ "java/lang/invoke/MethodHandle" ∧ y.cls ≠ "java/lang/invoke/VarHandle" ∧ (parseMethodDescriptor y.desc).map (fun d => d.parameters.length) = some na) (hna : as.length = na) (hR : fr' + 1 ≤ fr ∧ 8 + (maxL + 11) + lo' ≤ lo) (hn : n + N' ≤ N) (hst : (st.map qcat).sum ≤ 8)
    (d : decode cc pc = .ok (.invokevirtual idx, 3)) (k : AW K (n + N') (pc + 3) lv (resV r ++ st) m1) : AW K n pc lv (as.reverse ++ q_r kc :: st) m := by
  obtain ⟨p, l, e, R, s, mm, args, below, meth, c, G, A, Z⟩ := K
  intro H locs ls hP hS hl
  obtain ⟨rfl, htr, hGX⟩ := id hR0
  refine aw_runXr (xrun_cv hK htr hGX ci hM hG hw hcl hk h9 hd hna hR hn hst d hP hS hl.1) hS (fun H1 locs1 hP1 hS1 => ?_)
  have k1 := k H1 locs1 ls hP1 hS1 hl
  cases r with
  | none => exact k1
  | some x => exact k1
theorem aw_csXr (hK : KOK K cc nL own Ts fr N lo) (hR0 : KB K) (hM : TrX y ws fr' lo' N' as m (.inl r) m1) (hG : GoodIn Ts (wsS own idx y ws)) (hw : ws = Cond.code y bytes maxL ret :: ws')
    (hd : y.cls = own ∧ y.cls ≠ "java/lang/invoke/MethodHandle" ∧ y.cls ≠ "java/lang/invoke/VarHandle" ∧ (parseMethodDescriptor y.desc).map (fun d => d.parameters.length) = some na) (hna : as.length = na) (hR : fr' + 1 ≤ fr ∧ 8 + (maxL + 11) + lo' ≤ lo) (hn : n + N' ≤ N) (hst : (st.map qcat).sum ≤ 8)
    (d : decode cc pc = .ok (.invokestatic idx, 3)) (k : AW K (n + N') (pc + 3) lv (resV r ++ st) m1) : AW K n pc lv (as.reverse ++ st) m := by
  obtain ⟨p, l, e, R, s, mm, args, below, meth, c, G, A, Z⟩ := K
  intro H locs ls hP hS hl
  obtain ⟨rfl, htr, hGX⟩ := id hR0
  refine aw_runXr (xrun_cs hK htr hGX hM hG hw hd hna hR hn hst d hP hS hl.1) hS (fun H1 locs1 hP1 hS1 => ?_)
  have k1 := k H1 locs1 ls hP1 hS1 hl
  cases r with
  | none => exact k1
  | some x => exact k1
theorem aw_cvXx {ret0 : Option FieldType} {x : Nat} (hK : KOK K cc nL own Ts fr N lo) (hR0 : KX K ret0 (.inr x) m1 N) (ci : Nat) {Nf : Nat} (hM : TrX y ws fr' lo' N' (q_r kc :: as) m (.inr x) m1) (hG : GoodIn Ts (wsV own idx C y ws)) (hw : ws = Cond.code y bytes maxL ret :: ws') (hcl : vwCl[ci]? = some (C, T, Nf)) (hk : knd kc = ci) (h9 : ci < 10)
    (hd : y.cls = C ∧ y.cls ≠ "java/lang/invoke/MethodHandle" ∧ y.cls ≠ "java/lang/invoke/VarHandle" ∧ (parseMethodDescriptor y.desc).map (fun d => d.parameters.length) = some na) (hna : as.length = na) (hR : fr' + 1 ≤ fr ∧ 8 + (maxL + 11) + lo' ≤ lo) (hn : n + N' ≤ N) (hst : (st.map qcat).sum ≤ 8)
    (d : decode cc pc = .ok (.invokevirtual idx, 3)) : AW K n pc lv (as.reverse ++ q_r kc :: st) m := by
  obtain ⟨p, l, e, R, s, mm, args, below, meth, c, G, A, Z⟩ := K
  intro H locs ls hP hS hl
  obtain ⟨-, rfl, rfl, htr, hGX, htab⟩ := id hR0
  obtain ⟨hx, hb, hml, hown, hts, hGO, hlk, hRm, hA⟩ := id hK
  refine aw_runXx (xrun_cv hK htr hGX ci hM hG hw hcl hk h9 hd hna hR hn hst d hP hS hl.1) hS (fun H1 locs1 q ce hP1 hS1 hce hcv hcls => ?_)
  exact vx_out (fun z hz => (htab z hz).elim) hlk hce hcv hcls (fun t ht _ => ⟨x, rfl, rfl, by rw [ht]; exact hP1, hS1.F ht⟩) hS1.2.2 hn (Nat.mul_le_mul_left 16 hn)
theorem aw_csXx {ret0 : Option FieldType} {x : Nat} (hK : KOK K cc nL own Ts fr N lo) (hR0 : KX K ret0 (.inr x) m1 N) (hM : TrX y ws fr' lo' N' as m (.inr x) m1) (hG : GoodIn Ts (wsS own idx y ws)) (hw : ws = Cond.code y bytes maxL ret :: ws')
    (hd : y.cls = own ∧ y.cls ≠ "java/lang/invoke/MethodHandle" ∧ y.cls ≠ "java/lang/invoke/VarHandle" ∧ (parseMethodDescriptor y.desc).map (fun d => d.parameters.length) = some na) (hna : as.length = na) (hR : fr' + 1 ≤ fr ∧ 8 + (maxL + 11) + lo' ≤ lo) (hn : n + N' ≤ N) (hst : (st.map qcat).sum ≤ 8)
    (d : decode cc pc = .ok (.invokestatic idx, 3)) : AW K n pc lv (as.reverse ++ st) m := by
  obtain ⟨p, l, e, R, s, mm, args, below, meth, c, G, A, Z⟩ := K
  intro H locs ls hP hS hl
  obtain ⟨-, rfl, rfl, htr, hGX, htab⟩ := id hR0
  obtain ⟨hx, hb, hml, hown, hts, hGO, hlk, hRm, hA⟩ := id hK
  refine aw_runXx (xrun_cs hK htr hGX hM hG hw hd hna hR hn hst d hP hS hl.1) hS (fun H1 locs1 q ce hP1 hS1 hce hcv hcls => ?_)
  exact vx_out (fun z hz => (htab z hz).elim) hlk hce hcv hcls (fun t ht _ => ⟨x, rfl, rfl, by rw [ht]; exact hP1, hS1.F ht⟩) hS1.2.2 hn (Nat.mul_le_mul_left 16 hn)
theorem trX_of (hy : plainName y.cls = true) (hw : ws = Cond.code y bytes maxL ret :: ws') (hlen : avLen as ≤ maxL) (h : ∀ K, KOK K bytes maxL y.cls ws fr N lo → KX K ret res m' N → AW K 0 0 (avArgs 0 as) [] m) : TrX y ws fr lo N as m res m' := by
  intro l G sz htr
  refine vx_ofW (cc := bytes) (maxL := maxL) (ret := ret) hy hw ?_
  intro p e s mm args below meth c s₁ B hml htab hv
  obtain ⟨rfl, hP, hG, rfl, hGX⟩ := hv
  have hown : s.vm.findClass y.cls = some mm.cls := findClass_of_methodNamed B.named
  have hts := atoms_spec (ws := ws) B.pre
  have h1 := h (p, l, e, ({ frames := fr, cells := N, slots := 16 * N, locals := lo } : Room), s, mm, _, below, meth, c, G, frX G s.heap.size, vx_MQ below (QcX G s.heap.size res m') (XcX G s.heap.size res m') _ s N (16 * N) (frX G s.heap.size)) ⟨B.exec, B.bytes, hml, hown, hts, hG, B.notSynchronized, ⟨Nat.le_refl _, Nat.le_refl _, Nat.le_refl _, Nat.le_refl _⟩, fun k hk => frX_A hk⟩ ⟨B.returns, rfl, rfl, htr, hGX, htab⟩
  have hl := lv_entry (as.map (toV G)) (n := maxL) (Nat.le_trans (avLen_eq G as (fun a _ => qcat_ok a)) hlen)
  rw [lg_entry_eq]
  rw [avArgs_eq] at hl
  exact h1 s.heap [] _ hP va_S.rf (by rw [hml]; exact hl)
end XROWS
