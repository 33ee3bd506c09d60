/-! constructors: the world is a list of cells, in the order in which they were made -/
def wsC (G : GT) (l : List va_E) : va_W := l.mapIdx (fun i e => (G.2.2.2 i, e))
theorem wsC_at {G : GT} {l : List va_E} {i : Nat} {e : va_E} (h : l[i]? = some e) : (wsC G l)[i]? = some (G.2.2.2 i, e) := by
  simp [wsC, h]
theorem wsC_inv {G : GT} {l : List va_E} {i : Nat} {p : Nat × va_E} (h : (wsC G l)[i]? = some p) : ∃ e, l[i]? = some e ∧ p = (G.2.2.2 i, e) := by
  simp only [wsC, List.getElem?_mapIdx, Option.map_eq_some_iff] at h
  obtain ⟨e, h1, h2⟩ := h
  exact ⟨e, h1, h2.symm⟩
theorem wsC_set (G : GT) (l : List va_E) (i : Nat) (e : va_E) : (wsC G l).set i (G.2.2.2 i, e) = wsC G (l.set i e) := by
  apply List.ext_getElem?
  intro j
  simp only [wsC, List.getElem?_set, List.getElem?_mapIdx, List.length_mapIdx]
  by_cases hj : i = j
  · subst hj
    simp only [if_true]
    split <;> rfl
  · simp [hj]
def adC (G : GT) : Prop := ∃ b0 : Nat, ∀ i, G.2.2.2 i = b0 + i
theorem wsC_D {G : GT} (h : adC G) {A : Nat → Prop} (hA : ∀ i, A (G.2.2.2 i)) (l : List va_E) : va_D A (wsC G l) := by
  obtain ⟨b0, hb⟩ := h
  refine ⟨fun i j p q hi hj he => ?_, fun i p hi => ?_⟩
  · obtain ⟨e1, -, rfl⟩ := wsC_inv hi
    obtain ⟨e2, -, rfl⟩ := wsC_inv hj
    have he : G.2.2.2 i = G.2.2.2 j := he
    rw [hb, hb] at he
    omega
  · obtain ⟨e1, -, rfl⟩ := wsC_inv hi
    exact hA i
def GOC (G : GT) (s : State) : Prop :=
  va_K (G.1, G.2.1) vwCl (tysOf G) s ∧ (∀ q ∈ q_nest, va_Nw (q_nestw q) s) ∧ (∀ q ∈ vwCl, ∀ w ∈ u_ws q.1 q.2.1 q.2.2, va_Nw w s) ∧ va_AO RX3 s
theorem GOC.moved {G : GT} {s U : State} (h : GOC G s) (hW : s.WarmedH U.vm) : GOC G U :=
  ⟨va_K.moved hW.alike h.1, fun q hq => va_Nw.warmM hW (h.2.1 q hq), fun q hq w hw => word_at hW (Or.inl (u_good hw)) (h.2.2.1 q hq w hw), h.2.2.2.moved hW.alike⟩
theorem GOC.calling {G : GT} {U : State} (h : GOC G U) (g : JFrame) (mk : MethodId) (a : Array Value) : GOC G (U.calling g mk a) :=
  ⟨va_K.moved (u := U) (U := U.calling g mk a) (Vm.Alike.refl U.vm) h.1, fun q hq => va_Nw.same rfl rfl (h.2.1 q hq), fun q hq w hw => va_Nw.same (u := U) (U := U.calling g mk a) (u_on hw) rfl (h.2.2.1 q hq w hw), va_AO.moved (u := U) (U := U.calling g mk a) (Vm.Alike.refl U.vm) h.2.2.2⟩
def AC : KT → Nat → Nat → Nat → List (Nat × AV) → List AV → (GT → List va_E) → Prop
  | (p, l, e, R, s, mm, args, below, meth, c, G, A, Z), n, sl, pc, lv, st, cw =>
    ∀ (H : Heap) (locs : List Loc) (ls : Array Slot), va_P (G.1, G.2.1) vwCl (wsC G (cw G)) H → va_S A s.heap H locs → lv_has ls c.maxLocals (lv.map fun q => (q.1, toV G q.2)) → W p l e R s mm args below meth c H locs n sl Z (F0 mm pc ls (st.map (toV G)))
def KOC : KT → ByteArray → Nat → String → List Cond → Nat → Nat → Nat → Nat → Nat → Prop
  | (p, _, _, R, s, mm, args, _, meth, c, G, A, _), cc, nL, own, Ts, fr, nc, ns, lo, L0 =>
    p.tables.exec = Jvm.exec ∧ c.code = cc ∧ c.maxLocals = nL ∧ s.vm.findClass own = some mm.cls ∧ (∀ w ∈ Ts, w.before args s = true) ∧ GOC G s ∧ meth.locks = false ∧ (fr ≤ R.frames ∧ lo ≤ R.locals ∧ nc ≤ R.cells ∧ ns ≤ R.slots) ∧ adC G ∧ (∀ i, A (G.2.2.2 i)) ∧ s.heap.size = G.2.2.2 L0
def frD (G : GT) : Nat → Prop := fun q => G.2.2.2 0 ≤ q
def PcC (G : GT) (i : Nat) (cw : GT → List va_E) : Array Value → State → Prop := va_Pc [toV G (q_r i)] (fun U => va_P (G.1, G.2.1) vwCl (wsC G (cw G)) U.heap ∧ U.heap.size = G.2.2.2 (cw G).length ∧ GOC G U)
theorem PcC_blind (G : GT) (i : Nat) (cw : GT → List va_E) : FrameBlind (PcC G i cw) := fun a U g mk h => ⟨h.1, h.2.1, h.2.2.1, h.2.2.2.calling g mk a⟩
def QcC (G : GT) (cw : GT → List va_E) : Array Value → State → Outcome → State → Prop := fun _ st oc t =>
  oc = .returned none ∧ va_P (G.1, G.2.1) vwCl (wsC G (cw G)) t.heap ∧ va_F (frD G) st t
def TrC (y : MethodName) (ws : List Cond) (fr lo nc ns i : Nat) (cw cw' : GT → List va_E) : Prop :=
  ∀ (l : Launch) (G : GT), adC G → Met l y ws { frames := fr, cells := nc, slots := ns, locals := lo } (PcC G i cw) (QcC G cw') nc ns (frD G)
def KRC : KT → (GT → List va_E) → Nat → Nat → Prop
  | (_, _, _, _, s, _, args, below, meth, _, G, A, Z), cw, nc, ns =>
    meth.sig.returnType = none ∧ A = frD G ∧ Z = MQ below (QcC G cw) args s nc ns (frD G) ∧ meth.name = "<init>"
section CROWS
variable {K : KT} {cc : ByteArray} {nL : Nat} {own : String} {Ts : List Cond} {fr nc ns lo n sl pc L0 : Nat} {lv : List (Nat × AV)} {st : List AV} {cw : GT → List va_E}
theorem ac_aload_n (hK : KOC K cc nL own Ts fr nc ns lo L0) {kk : Fin 4} {x : Nat} (i : Nat) (hk : lv[i]? = some (kk.val, q_r x)) (d : decode cc pc = .ok (.aload_n kk, 1)) (k : AC K n sl (pc + 1) lv (q_r x :: st) cw) : AC K n sl pc lv st cw := by
  obtain ⟨p, l, e, R, s, mm, args, below, meth, c, G, A, Z⟩ := K
  intro H locs ls hP hS hl
  exact lv_aload_n hK.1 hK.2.1 d rfl (lvm_at hl hk) (k H locs ls hP hS hl)
theorem ac_iload_n (hK : KOC K cc nL own Ts fr nc ns lo L0) {kk : Fin 4} {x : Int32} (i : Nat) (hk : lv[i]? = some (kk.val, q_i x)) (d : decode cc pc = .ok (.iload_n kk, 1)) (k : AC K n sl (pc + 1) lv (q_i x :: st) cw) : AC K n sl pc lv st cw := by
  obtain ⟨p, l, e, R, s, mm, args, below, meth, c, G, A, Z⟩ := K
  intro H locs ls hP hS hl
  exact lv_iload_n hK.1 hK.2.1 d rfl (lvm_at hl hk) (k H locs ls hP hS hl)
theorem ac_istore_n (hK : KOC K cc nL own Ts fr nc ns lo L0) {kk : Fin 4} {x : Int32} (lv' : List (Nat × AV)) (hn : kk.val < nL) (h : (kk.val, q_i x) :: lv.filter (fun q => !(q.1 == kk.val) && !(q.1 + 1 == kk.val && qcat q.2 == 2)) = lv') (d : decode cc pc = .ok (.istore_n kk, 1)) (k : AC K n sl (pc + 1) lv' st cw) : AC K n sl pc lv (q_i x :: st) cw := by
  obtain ⟨p, l, e, R, s, mm, args, below, meth, c, G, A, Z⟩ := K
  intro H locs ls hP hS hl
  subst h
  exact lv_istore_n hK.1 hK.2.1 d rfl hl (by rw [hK.2.2.1]; exact hn) rfl (fun ls' hl' => k H locs ls' hP hS (lvm_get hl'))
theorem ac_iinc (hK : KOC K cc nL own Ts fr nc ns lo L0) {j : Nat} {z : Int} {x v : Int32} (i : Nat) (lv' : List (Nat × AV)) (hn : j < nL) (hk : lv[i]? = some (j, q_i x)) (hv : x + Int32.ofInt z = v) (h : (j, q_i v) :: lv.filter (fun q => !(q.1 == j) && !(q.1 + 1 == j && qcat q.2 == 2)) = lv') (d : decode cc pc = .ok (.iinc j z, 3)) (k : AC K n sl (pc + 3) lv' st cw) : AC K n sl pc lv (st) cw := by
  obtain ⟨p, l, e, R, s, mm, args, below, meth, c, G, A, Z⟩ := K
  intro H locs ls hP hS hl
  subst h
  have hk2 : (lv.map fun q => (q.1, toV G q.2))[i]? = some (j, Value.int x) := by rw [List.getElem?_map, hk]; rfl
  exact lv_iinc hK.1 hK.2.1 d hl hk2 hv (by rw [hK.2.2.1]; exact hn) rfl (fun ls' hl' => k H locs ls' hP hS (lvm_get (a := q_i v) hl'))
theorem ac_iconst (hK : KOC K cc nL own Ts fr nc ns lo L0) {z : Int} (v : Int32) (hv : Int32.ofInt z = v) (d : decode cc pc = .ok (.iconst z, 1)) (k : AC K n sl (pc + 1) lv (q_i v :: st) cw) : AC K n sl pc lv st cw := by
  obtain ⟨p, l, e, R, s, mm, args, below, meth, c, G, A, Z⟩ := K
  intro H locs ls hP hS hl
  exact lv_iconst hK.1 hK.2.1 d hv (k H locs ls hP hS hl)
theorem ac_bipush (hK : KOC K cc nL own Ts fr nc ns lo L0) {z : Int} (v : Int32) (hv : (Int8.ofInt z).toInt32 = v) (d : decode cc pc = .ok (.bipush z, 2)) (k : AC K n sl (pc + 2) lv (q_i v :: st) cw) : AC K n sl pc lv st cw := by
  obtain ⟨p, l, e, R, s, mm, args, below, meth, c, G, A, Z⟩ := K
  intro H locs ls hP hS hl
  exact lv_bipush hK.1 hK.2.1 d hv (k H locs ls hP hS hl)
theorem ac_sipush (hK : KOC K cc nL own Ts fr nc ns lo L0) {z : Int} (v : Int32) (hv : (Int16.ofInt z).toInt32 = v) (d : decode cc pc = .ok (.sipush z, 3)) (k : AC K n sl (pc + 3) lv (q_i v :: st) cw) : AC K n sl pc lv st cw := by
  obtain ⟨p, l, e, R, s, mm, args, below, meth, c, G, A, Z⟩ := K
  intro H locs ls hP hS hl
  exact lv_sipush hK.1 hK.2.1 d hv (k H locs ls hP hS hl)
theorem ac_ldc (hK : KOC K cc nL own Ts fr nc ns lo L0) {idx : Nat} (v : Int32) (hv : Cond.constant own idx v ∈ Ts) (d : decode cc pc = .ok (.ldc idx, 2)) (k : AC K n sl (pc + 2) lv (q_i v :: st) cw) : AC K n sl pc lv st cw := by
  obtain ⟨p, l, e, R, s, mm, args, below, meth, c, G, A, Z⟩ := K
  intro H locs ls hP hS hl
  exact lv_ldc hK.1 hK.2.1 hK.2.2.2.1 (hK.2.2.2.2.1 _ hv) d (k H locs ls hP hS hl)
theorem ac_ldc_w (hK : KOC K cc nL own Ts fr nc ns lo L0) {idx : Nat} (v : Int32) (hv : Cond.constant own idx v ∈ Ts) (d : decode cc pc = .ok (.ldc_w idx, 3)) (k : AC K n sl (pc + 3) lv (q_i v :: st) cw) : AC K n sl pc lv st cw := by
  obtain ⟨p, l, e, R, s, mm, args, below, meth, c, G, A, Z⟩ := K
  intro H locs ls hP hS hl
  exact lv_ldcw hK.1 hK.2.1 hK.2.2.2.1 (hK.2.2.2.2.1 _ hv) d (k H locs ls hP hS hl)
theorem ac_dup (hK : KOC K cc nL own Ts fr nc ns lo L0) {a : AV} (ha : qcat a = 1) (d : decode cc pc = .ok (.dup, 1)) (k : AC K n sl (pc + 1) lv (a :: a :: st) cw) : AC K n sl pc lv (a :: st) cw := by
  obtain ⟨p, l, e, R, s, mm, args, below, meth, c, G, A, Z⟩ := K
  intro H locs ls hP hS hl
  exact lv_dup hK.1 hK.2.1 d (by rw [qcat_eq]; exact ha) (k H locs ls hP hS hl)
theorem ac_goto (hK : KOC K cc nL own Ts fr nc ns lo L0) {z : Int} (tgt : Nat) (ht : (pc : Int) + z = (tgt : Int)) (d : decode cc pc = .ok (.goto z, 3)) (k : AC K n sl tgt lv st cw) : AC K n sl pc lv (st) cw := by
  obtain ⟨p, l, e, R, s, mm, args, below, meth, c, G, A, Z⟩ := K
  intro H locs ls hP hS hl
  exact lv_goto hK.1 hK.2.1 d ht (k H locs ls hP hS hl)
theorem ac_icmp_ge_t (hK : KOC K cc nL own Ts fr nc ns lo L0) {x y : Int32} {z : Int} (tgt : Nat) (hc : y ≤ x) (ht : (pc : Int) + z = (tgt : Int)) (d : decode cc pc = .ok (.if_icmp .ge z, 3)) (kt : AC K n sl tgt lv st cw) : AC K n sl pc lv (q_i y :: q_i x :: st) cw := by
  obtain ⟨p, l, e, R, s, mm, args, below, meth, c, G, A, Z⟩ := K
  intro H locs ls hP hS hl
  exact lv_icmp_ge hK.1 hK.2.1 d ht (fun _ => kt H locs ls hP hS hl) (fun h => absurd hc h)
theorem ac_icmp_ge_f (hK : KOC K cc nL own Ts fr nc ns lo L0) {x y : Int32} {z : Int} (tgt : Nat) (hc : ¬ y ≤ x) (ht : (pc : Int) + z = (tgt : Int)) (d : decode cc pc = .ok (.if_icmp .ge z, 3)) (kf : AC K n sl (pc + 3) lv st cw) : AC K n sl pc lv (q_i y :: q_i x :: st) cw := by
  obtain ⟨p, l, e, R, s, mm, args, below, meth, c, G, A, Z⟩ := K
  intro H locs ls hP hS hl
  exact lv_icmp_ge hK.1 hK.2.1 d ht (fun h => absurd h hc) (fun _ => kf H locs ls hP hS hl)
theorem ac_cw {cw' : GT → List va_E} (h : ∀ G, cw G = cw' G) (k : AC K n sl pc lv st cw') : AC K n sl pc lv st cw := by
  have e : cw = cw' := funext h
  rw [e]; exact k
theorem ac_wd {n' sl' : Nat} (h : n ≤ n') (h2 : sl ≤ sl') (k : AC K n' sl' pc lv st cw) : AC K n sl pc lv st cw := by
  obtain ⟨p, l, e, R, s, mm, args, below, meth, c, G, A, Z⟩ := K
  intro H locs ls hP hS hl
  exact W.widen h h2 (k H locs ls hP hS hl)
theorem ac_objInit (hK : KOC K cc nL own Ts fr nc ns lo L0) {idx i : Nat} (h1 : Cond.methodLink own idx objectInit ∈ Ts) (h2 : Cond.instanceMethod objectInit ∈ Ts) (h3 : Cond.code objectInit ⟨#[0xb1]⟩ 1 none ∈ Ts) (hR : 1 ≤ fr ∧ 20 ≤ lo) (hst : (st.map qcat).sum ≤ 8) (d : decode cc pc = .ok (.invokespecial idx, 3)) (k : AC K n sl (pc + 3) lv st cw) : AC K n sl pc lv (q_r i :: st) cw := by
  obtain ⟨p, l, e, R, s, mm, args, below, meth, c, G, A, Z⟩ := K
  intro H locs ls hP hS hl
  obtain ⟨hx, hb, hml, hown, hts, hGO, hlk, hRm, hA⟩ := id hK
  exact W.objInit hx hb hown (hts _ h1) (hts _ h2) (hts _ h3) rfl hl.1 rfl d (Nat.le_trans hR.1 hRm.1) (by
    have h9 := lv_room (m := mm) (pc := pc) (ls := ls) (rest := (toV G (q_r i)) :: st.map (toV G)) (st := st.map (toV G)) (by rw [qsum_eq]; exact hst)
    exact Nat.le_trans (Nat.add_le_add_right h9 12) (Nat.le_trans hR.2 hRm.2.1)) (k H locs ls hP hS hl)
theorem size_of {G : GT} (had : adC G) {l : List va_E} {H : Heap} {n L0 L : Nat} {s : State} (hP : va_P (G.1, G.2.1) vwCl (wsC G l) H) (hL : l.length = L) (hLn : L = L0 + n) (hs : s.heap.size = G.2.2.2 L0) (h1 : s.heap.size ≤ H.size) (h2 : H.size ≤ s.heap.size + n) : H.size = G.2.2.2 L := by
  obtain ⟨b0, hb0⟩ := had
  rw [hb0] at hs ⊢
  rcases Nat.eq_zero_or_pos L with h0 | h0
  · omega
  · have hlt : L - 1 < l.length := by omega
    have h3 := (hP (L - 1) _ (wsC_at (List.getElem?_eq_getElem hlt))).lt
    have h3 : G.2.2.2 (L - 1) < H.size := h3
    rw [hb0] at h3
    omega
theorem va_P_push {G : GT} {l : List va_E} {H H1 : Heap} {e : va_E} (hP : va_P (G.1, G.2.1) vwCl (wsC G l) H) (h : ∀ q : Nat, q < H.size → H1[q]? = H[q]?) (he : va_at (G.1, G.2.1) vwCl (G.2.2.2 l.length, e) H1) : va_P (G.1, G.2.1) vwCl (wsC G (l ++ [e])) H1 := by
  intro k q hk
  obtain ⟨e1, h1, rfl⟩ := wsC_inv hk
  rcases Nat.lt_or_ge k l.length with hlt | hge
  · rw [List.getElem?_append_left hlt] at h1
    have h2 := hP k (G.2.2.2 k, e1) (wsC_at h1)
    exact h2.kept (h _ h2.lt)
  · rw [List.getElem?_append_right hge] at h1
    have hk0 : k - l.length < 1 := (List.getElem?_eq_some_iff.mp h1).1
    have e0 : k = l.length := by omega
    subst e0
    rw [Nat.sub_self] at h1
    cases h1
    exact he
theorem ac_newa (hK : KOC K cc nL own Ts fr nc ns lo L0) {atype : ArrayType} {ty : FieldType} (t : Nat) {a0 : vp_A} {x : Int32} (N' L : Nat) (hL : ∀ G, (cw G).length = L) (hLn : L = L0 + n) (harr : Cond.arrayClass ty ∈ Ts) (hty : newarray.typeOf atype = ty) (htt : ∀ G : GT, (tysOf G)[t]? = some (G.2.2.1 t, ty)) (hprim : ∀ (U : State) (cA : ClassId), va_RA U cA ty → U.vm.findClass ("[" ++ ty.toString) = some cA) (ha : ∀ cA : ClassId, vp_cell cA a0 = arrV cA N' (fun _ => defaultValue ty)) (hn : ¬ x < 0) (hN : x.toNatClampNeg = N') (hbytes : N' * componentBytes ty ≤ 536870912) (hcn : n + 1 ≤ nc) (hsn : sl + N' ≤ ns)
    (d : decode cc pc = .ok (.newarray atype, 2)) (k : AC K (n + 1) (sl + N') (pc + 2) lv (q_r L :: st) (fun G => cw G ++ [.inl (G.2.2.1 t, a0)])) : AC K n sl pc lv (q_i x :: st) cw := by
  obtain ⟨p, l, e, R, s, mm, args, below, meth, c, G, A, Z⟩ := K
  intro H locs ls hP hS hl
  obtain ⟨hx, hb, hml, hown, hts, hGO, hlk, hRm, had, hAi, hs0⟩ := id hK
  intro T hT X
  have hz : H.size = G.2.2.2 (cw G).length := by rw [hL]; exact size_of had hP (hL G) hLn hs0 hS.1 (by rw [← hT]; exact X.heapSize)
  revert T
  show W p l e R s mm args below meth c H locs n sl Z _
  subst hty
  refine va_newaK hx hb (hts _ harr) rfl d rfl hn hN hbytes (Nat.le_trans hcn hRm.2.2.1) (Nat.le_trans hsn hRm.2.2.2) rfl fun H1 cA e1 z1 o1 hAr hNm => ?_
  have hcA : cA = G.2.2.1 t := by
    have h1 := hprim s _ (hGO.1.2 t _ (htt G)).2
    exact Option.some.inj (hNm.symm.trans h1)
  subst hcA
  have k1 := k H1 locs ls (va_P_push hP o1 (by show H1[G.2.2.2 (cw G).length]? = some (vp_cell _ _); rw [ha, ← hz]; exact e1)) ⟨Nat.le_trans hS.1 (by omega), fun q h1 h2 => (o1 q (Nat.lt_of_lt_of_le h1 hS.1)).trans (hS.2.1 q h1 h2), hS.2.2⟩ hl
  have e2 : H.size = G.2.2.2 L := by rw [hz, hL]
  rw [e2]
  exact k1
theorem ac_new (hK : KOC K cc nL own Ts fr nc ns lo L0) {C : String} {T : u_T} {Nf idx ci : Nat} {ty : Nat → FieldType} (fs : List Value) (L : Nat) (hL : ∀ G, (cw G).length = L) (hLn : L = L0 + n) (hcl : vwCl[ci]? = some (C, T, Nf)) (hty : ∀ k, k < Nf → parseFieldDescriptor (T k).2.2.1 = some (ty k)) (h1 : Cond.classLink own idx C ∈ Ts) (h2 : Cond.instantiable C Nf ∈ Ts) (h3 : Cond.initialized C ∈ Ts) (hfs : ∀ j, j < Nf → defaultValue (ty j) = vp_V fs j) (hcn : n + 1 ≤ nc) (hsn : sl + Nf ≤ ns)
    (d : decode cc pc = .ok (.new idx, 3)) (k : AC K (n + 1) (sl + Nf) (pc + 3) lv (q_r L :: st) (fun G => cw G ++ [.inr (ci, fs)])) : AC K n sl pc lv st cw := by
  obtain ⟨p, l, e, R, s, mm, args, below, meth, c, G, A, Z⟩ := K
  intro H locs ls hP hS hl
  obtain ⟨hx, hb, hml, hown, hts, hGO, hlk, hRm, had, hAi, hs0⟩ := id hK
  intro T hT X
  have hz : H.size = G.2.2.2 (cw G).length := by rw [hL]; exact size_of had hP (hL G) hLn hs0 hS.1 (by rw [← hT]; exact X.heapSize)
  revert T
  show W p l e R s mm args below meth c H locs n sl Z _
  have hKn := hGO.1.1 ci _ hcl
  refine W.newcK hx hb hown (hts _ h1) (hts _ h2) (hts _ h3) rfl d (Nat.le_trans hcn hRm.2.2.1) (Nat.le_trans hsn hRm.2.2.2) hKn.2.1 rfl fun H1 kC hkC e1 z1 o1 => ?_
  have k1 := k H1 locs ls (va_P_push hP o1 ⟨_, hcl, by rw [← hz]; exact (u_born (ws := u_ws C T Nf) (args := args) ty (fun w hw => va_Nw.use (u_on hw) (hGO.2.2.1 _ (List.mem_of_getElem? hcl) w hw)) (fun w hw => hw) hKn hkC e1 hty).to hfs⟩) ⟨Nat.le_trans hS.1 (by omega), fun q h1 h2 => (o1 q (Nat.lt_of_lt_of_le h1 hS.1)).trans (hS.2.1 q h1 h2), hS.2.2⟩ hl
  have e2 : H.size = G.2.2.2 L := by rw [hz, hL]
  rw [e2]
  exact k1
theorem ac_anew (hK : KOC K cc nL own Ts fr nc ns lo L0) {idx : Nat} {x : Int32} (N' L : Nat) (hL : ∀ G, (cw G).length = L) (hLn : L = L0 + n) (h1 : Cond.classLink own idx RX3 ∈ Ts) (hn : ¬ x < 0) (hN : x.toNatClampNeg = N') (hbytes : N' * 4 ≤ 536870912) (hcn : n + 1 ≤ nc) (hsn : sl + N' ≤ ns)
    (d : decode cc pc = .ok (.anewarray idx, 3)) (k : AC K (n + 1) (sl + N') (pc + 3) lv (q_r L :: st) (fun G => cw G ++ [.inl (G.2.2.1 2, N', .inr (.inr (.inr (.inr (fun _ => none)))))])) : AC K n sl pc lv (q_i x :: st) cw := by
  obtain ⟨p, l, e, R, s, mm, args, below, meth, c, G, A, Z⟩ := K
  intro H locs ls hP hS hl
  obtain ⟨hx, hb, hml, hown, hts, hGO, hlk, hRm, had, hAi, hs0⟩ := id hK
  intro T hT X
  have hz : H.size = G.2.2.2 (cw G).length := by rw [hL]; exact size_of had hP (hL G) hLn hs0 hS.1 (by rw [← hT]; exact X.heapSize)
  revert T
  show W p l e R s mm args below meth c H locs n sl Z _
  subst hN
  refine W.anew hx hb hown (hts _ h1) (va_AO.use hGO.2.2.2) rfl d rfl hn hbytes (Nat.le_trans hcn hRm.2.2.1) (Nat.le_trans hsn hRm.2.2.2) fun cA kA comp f1 f2 f3 f4 => ?_
  generalize hH1 : H.push ({ cls := cA, slots := Array.replicate x.toNatClampNeg .null, vm := .none } : Cell) = H1
  have z1 : H1.size = H.size + 1 := by rw [← hH1, Array.size_push]
  have e1 : H1[H.size]? = some (arrV cA x.toNatClampNeg (fun _ => .null)) := by rw [← hH1, Array.getElem?_push_size, ← arrV_new]
  have o1 : ∀ q : Nat, q < H.size → H1[q]? = H[q]? := fun q hq => by rw [← hH1, Array.getElem?_push, if_neg (Nat.ne_of_lt hq)]
  have hcA : cA = G.2.2.1 2 := by
    obtain ⟨kA', comp', g1, g2, g3, g4⟩ := (hGO.1.2 2 _ (show (tysOf G)[2]? = some (G.2.2.1 2, .object RX3) from rfl)).2
    exact Option.some.inj (f1.symm.trans g4)
  subst hcA
  have k1 := k H1 locs ls (va_P_push hP o1 (by show H1[G.2.2.2 (cw G).length]? = some (vp_cell _ _); rw [vp_cell_q, ← hz]; exact e1)) ⟨Nat.le_trans hS.1 (by omega), fun q h1 h2 => (o1 q (Nat.lt_of_lt_of_le h1 hS.1)).trans (hS.2.1 q h1 h2), hS.2.2⟩ hl
  have e2 : H.size = G.2.2.2 L := by rw [hz, hL]
  rw [e2]
  exact k1
theorem ac_put {nc0 ns0 : Nat} {cw0 : GT → List va_E} (hK : KOC K cc nL own Ts fr nc ns lo L0) (hR : KRC K cw0 nc0 ns0) {i ci j idx Nf : Nat} {C : String} {T : u_T} {ty0 : Nat → FieldType} {ty : FieldType} {v : AV} {fs : GT → List Value} (hcl : vwCl[ci]? = some (C, T, Nf)) (hi : ∀ G, (cw G)[i]? = some (.inr (ci, fs G))) (hj : j < Nf) (hty : ∀ k, k < Nf → parseFieldDescriptor (T k).2.2.1 = some (ty0 k)) (hnm : ∀ a, a < Nf → ∀ b, b < Nf → a ≠ b → (T a).2.1 ≠ (T b).2.1) (hlen : ∀ G, j < (fs G).length) (hdecl : (T j).1 = own) (hd : parseFieldDescriptor (T j).2.2.1 = some ty) (hn : ∀ G : GT, narrow ty (toV G v) = toV G v) (hfit : ∀ G : GT, fits ty (toV G v) = true) (hlk : Cond.fieldLink own idx (T j).1 (T j).2.1 (T j).2.2.1 ∈ Ts)
    (d : decode cc pc = .ok (.putfield idx, 3)) (k : AC K n sl (pc + 3) lv st (fun G => (cw G).set i (.inr (ci, (fs G).set j (toV G v))))) : AC K n sl pc lv (v :: q_r i :: st) cw := by
  obtain ⟨p, l, e, R, s, mm, args, below, meth, c, G, A, Z⟩ := K
  intro H locs ls hP hS hl
  obtain ⟨hx, hb, hml, hown, hts, hGO, hlk2, hRm, had, hAi, hs0⟩ := id hK
  obtain ⟨-, -, -, hinit⟩ := hR
  by_cases hfin : (T j).2.2.2 = true
  · refine va_putF hx hb (Ts := u_ws C T Nf) (fun w hw => va_Nw.use (u_on hw) (hGO.2.2.1 _ (List.mem_of_getElem? hcl) w hw)) (fun w hw => hw) ty0 hty hnm hown hGO.1 hP (wsC_D had hAi (cw G)) hS i (wsC_at (hi G)) hcl j hj (hts _ hlk) (fun _ h => h) hfin hinit hdecl hd (hn G) (hfit G) (hlen G) d (fun H1 locs1 hP1 _ hS1 => k H1 locs1 ls ?_ hS1 hl)
    rw [wsC_set] at hP1; exact hP1
  · refine va_put hx hb (Ts := u_ws C T Nf) (fun w hw => va_Nw.use (u_on hw) (hGO.2.2.1 _ (List.mem_of_getElem? hcl) w hw)) (fun w hw => hw) ty0 hty hnm hown hGO.1 hP (wsC_D had hAi (cw G)) hS i (wsC_at (hi G)) hcl j hj (hts _ hlk) (fun _ h => h) (by simpa using hfin) hd (hn G) (hfit G) (hlen G) d (fun H1 locs1 hP1 _ hS1 => k H1 locs1 ls ?_ hS1 hl)
    rw [wsC_set] at hP1; exact hP1
theorem ac_get (hK : KOC K cc nL own Ts fr nc ns lo L0) {i ci j idx Nf : Nat} {C : String} {T : u_T} {v : AV} {fs : GT → List Value} (hcl : vwCl[ci]? = some (C, T, Nf)) (hi : ∀ G, (cw G)[i]? = some (.inr (ci, fs G))) (hj : j < Nf) (hv : ∀ G, (fs G)[j]? = some (toV G v)) (hlk : Cond.fieldLink own idx (T j).1 (T j).2.1 (T j).2.2.1 ∈ Ts) (d : decode cc pc = .ok (.getfield idx, 3)) (k : AC K n sl (pc + 3) lv (v :: st) cw) : AC K n sl pc lv (q_r i :: st) cw := by
  obtain ⟨p, l, e, R, s, mm, args, below, meth, c, G, A, Z⟩ := K
  intro H locs ls hP hS hl
  obtain ⟨hx, hb, hml, hown, hts, hGO, hlk2, hRm, had, hAi, hs0⟩ := id hK
  exact va_get hx hb (Ts := u_ws C T Nf) (fun w hw => va_Nw.use (u_on hw) (hGO.2.2.1 _ (List.mem_of_getElem? hcl) w hw)) (fun w hw => hw) hown hGO.1 hP i (wsC_at (hi G)) hcl j hj (hts _ hlk) (fun _ h => h) (hv G) d (k H locs ls hP hS hl)
theorem ac_aast (hK : KOC K cc nL own Ts fr nc ns lo L0) {i v : Nat} {x : Int32} {N' : Nat} {fs : GT → List Value} {f : GT → Nat → Option Nat} (hi : ∀ G, (cw G)[i]? = some (.inl (G.2.2.1 2, N', .inr (.inr (.inr (.inr (f G))))))) (hv : ∀ G, (cw G)[v]? = some (.inr (3, fs G))) (hin : inb x N' = true) (d : decode cc pc = .ok (.aastore, 1)) (k : AC K n sl (pc + 1) lv st (fun G => (cw G).set i (.inl (G.2.2.1 2, N', .inr (.inr (.inr (.inr (va_up (f G) (ix x) (some (G.2.2.2 v))))))))) ) : AC K n sl pc lv (q_r v :: q_i x :: q_r i :: st) cw := by
  obtain ⟨p, l, e, R, s, mm, args, below, meth, c, G, A, Z⟩ := K
  intro H locs ls hP hS hl
  obtain ⟨hx, hb, hml, hown, hts, hGO, hlk2, hRm, had, hAi, hs0⟩ := id hK
  refine va_astq (r := (RX3, TX3, 3)) hx hb hGO.1 hP (wsC_D had hAi (cw G)) hS i 2 v 3 (wsC_at (hi G)) rfl (wsC_at (hv G)) rfl (inb_in hin) d (fun H1 locs1 hP1 _ hS1 => k H1 locs1 ls ?_ hS1 hl)
  rw [wsC_set] at hP1; exact hP1
theorem ac_vret {cw0 : GT → List va_E} (hK : KOC K cc nL own Ts fr nc ns lo L0) (hR : KRC K cw0 n sl) (he : ∀ G, cw G = cw0 G) (d : decode cc pc = .ok (.return_, 1)) : AC K n sl pc lv [] cw := by
  obtain ⟨p, l, e, R, s, mm, args, below, meth, c, G, A, Z⟩ := K
  intro H locs ls hP hS hl
  obtain ⟨hx, hb, hml, hown, hts, hGO, hlk, hRm, had, hAi, hs0⟩ := id hK
  obtain ⟨hret, rfl, rfl, -⟩ := hR
  exact W.vret hx hb hret (fun t ht _ => ⟨rfl, by rw [ht, ← he]; exact hP, hS.F ht⟩) hS.2.2 d
section CCALL
variable {y : MethodName} {ws ws' : List Cond} {bytes : ByteArray} {maxL idx fr' lo' nc' ns' i : Nat} {host : String} {cw' : GT → List va_E}
theorem ac_runC {p : Program} {l : Launch} {e : Env} {R : Room} {s : State} {mm : MethodId} {args : Array Value} {below : List Frame} {meth : Method} {c : Code} {G : GT} {A : Nat → Prop} {Z : State → Prop} {H : Heap} {locs : List Loc} {ls : Array Slot} {st0 rest : List Value} {a : Array Value}
    (hr : va_Run p l e R s mm args below meth c H locs n sl nc' ns' (F0 mm pc ls st0) rest (QcC G cw' a) (frD G)) (hS : va_S A s.heap H locs) (hA : ∀ q, frD G q → A q)
    (kk : ∀ (H1 : Heap) (locs1 : List Loc), va_P (G.1, G.2.1) vwCl (wsC G (cw' G)) H1 → va_S A s.heap H1 locs1 → W p l e R s mm args below meth c H1 locs1 (n + nc') (sl + ns') Z (F0 mm (pc + 3) ls rest)) :
    W p l e R s mm args below meth c H locs n sl Z (F0 mm pc ls st0) := by
  intro T hT X
  obtain ⟨v, st₀, t, T', L, h0, X', hL, e1, e2, ⟨hv, hP, hz, hk⟩, stp⟩ := hr T hT X
  have hv : v = none := Outcome.returned.inj hv
  subst hv
  rw [h0] at hz hk
  obtain ⟨t2, a1, b1⟩ := kk T'.heap (locs ++ L) (by rw [e1]; exact hP)
    ⟨Nat.le_trans hS.1 (by rw [e1]; exact hz), fun q h1 h2 => by rw [e1, hk q (Nat.lt_of_lt_of_le h1 hS.1) (fun z => h2 (hA q z))]; exact hS.2.1 q h1 h2, fun q hq => by
      rcases List.mem_append.mp hq with h | h
      · exact hS.2.2 q h
      · exact hA _ (hL q h)⟩ T' rfl X'
  exact ⟨t2, stp t2 a1, b1⟩
theorem ac_ciN (hK : KOC K cc nL own Ts fr nc ns lo L0) (hAq : (match K with | (_, _, _, _, _, _, _, _, _, _, G, A, _) => ∀ q, frD G q → A q)) (hM : TrC y ws fr' lo' nc' ns' i cw cw') (L : Nat) (hL : ∀ G, (cw G).length = L) (hLn : L = L0 + n) (hG : GoodIn Ts ws) (hw : ws = Cond.code y bytes maxL none :: ws') (hne : (own, idx, y, host) ∈ q_nest) (hini : Cond.initialized y.cls ∈ Ts) (hins : Cond.instanceMethod y ∈ Ts) (hy1 : y.name = "<init>")
    (hd : y.cls ≠ "java/lang/invoke/MethodHandle" ∧ y.cls ≠ "java/lang/invoke/VarHandle" ∧ (parseMethodDescriptor y.desc).map (fun d => d.parameters.length) = some 0) (hR : fr' + 1 ≤ fr ∧ 8 + (maxL + 11) + lo' ≤ lo) (hn : n + nc' ≤ nc) (hs2 : sl + ns' ≤ ns) (hst : (st.map qcat).sum ≤ 8)
    (d : decode cc pc = .ok (.invokespecial idx, 3)) (k : AC K (n + nc') (sl + ns') (pc + 3) lv st cw') : AC K n sl pc lv (q_r i :: st) cw := by
  obtain ⟨p, l, e, R, s, mm, args, below, meth, c, G, A, Z⟩ := K
  intro H locs ls hP hS hl
  obtain ⟨hx, hb, hml, hown, hts, hGO, hlk, hRm, had, hAi, hs0⟩ := id hK
  intro T hT X
  have hz : H.size = G.2.2.2 (cw G).length := by rw [hL]; exact size_of had hP (hL G) hLn hs0 hS.1 (by rw [← hT]; exact X.heapSize)
  have run := va_runIN (As := []) (b := G.2.2.2 i) (rest := st.map (toV G)) (H := H) (locs := locs) (cells := n) (slots := sl) (g := F0 mm pc ls ((q_r i :: st).map (toV G))) (e := e) (below := below) (meth := meth) ⟨hx, hb, hml, hown, hts⟩ (hM l G had) ⟨va_cnB (R := R) 0 hts hG hw rfl rfl (hGO.2.1 _ hne) (hts _ hini) hd ⟨Nat.le_trans hR.1 hRm.1, Nat.le_trans hR.2 hRm.2.1⟩, hy1, hts _ hins⟩
    ⟨PcC_blind _ _ _, fun U hU hW => ⟨rfl, by rw [hU]; exact hP, by rw [hU]; exact hz, hGO.moved hW⟩⟩ rfl rfl (hl.1.trans hml) rfl (lv_room (by rw [qsum_eq]; exact hst)) d ⟨Nat.le_trans hn hRm.2.2.1, Nat.le_trans hs2 hRm.2.2.2⟩
  exact ac_runC run hS hAq (fun H1 locs1 hP1 hS1 => k H1 locs1 ls hP1 hS1 hl) T hT X
end CCALL
theorem trC_of {y : MethodName} {ws ws' : List Cond} {bytes : ByteArray} {maxL i L0 nc0 ns0 : Nat} {cw' : GT → List va_E} (hy : plainName y.cls = true) (hnm : y.name = "<init>") (hw : ws = Cond.code y bytes maxL none :: ws') (h1 : 1 ≤ maxL) (hL : ∀ G, (cw G).length = L0)
    (h : ∀ K, KOC K bytes maxL y.cls ws fr nc0 ns0 lo L0 → KRC K cw' nc0 ns0 → (match K with | (_, _, _, _, _, _, _, _, _, _, G, A, _) => ∀ q, frD G q → A q) → AC K 0 0 0 [(0, q_r i)] [] cw) : TrC y ws fr lo nc0 ns0 i cw cw' := by
  intro l G had
  refine Met.ofW (cc := bytes) (maxL := maxL) (ret := none) hy hw ?_
  intro p e s mm args below meth c s₁ B hml hv
  obtain ⟨rfl, hP, hz, hG⟩ := hv
  have hown : s.vm.findClass y.cls = some mm.cls := findClass_of_methodNamed B.named
  have hts := atoms_spec (ws := ws) B.pre
  have hin : meth.name = "<init>" := (name_of_methodNamed B.named B.method).1.trans hnm
  have hAi : ∀ i, frD G (G.2.2.2 i) := fun i => by
    obtain ⟨b0, hb0⟩ := had
    show G.2.2.2 0 ≤ G.2.2.2 i
    rw [hb0, hb0]; omega
  have h1 := h (p, l, e, ({ frames := fr, cells := nc0, slots := ns0, locals := lo } : Room), s, mm, _, below, meth, c, G, frD G, MQ below (QcC G cw') _ s nc0 ns0 (frD G)) ⟨B.exec, B.bytes, hml, hown, hts, hG, B.notSynchronized, ⟨Nat.le_refl _, Nat.le_refl _, Nat.le_refl _, Nat.le_refl _⟩, had, hAi, by rw [hz, hL]⟩ ⟨B.returns, rfl, rfl, hin⟩ (fun q hq => hq)
  have hl := lv_entry ([toV G (q_r i)]) (n := maxL) (by simpa [lg_sl, toV, Value.category] using ‹1 ≤ maxL›)
  rw [lg_entry_eq]
  exact h1 s.heap [] _ hP va_S.rf (by rw [hml]; exact hl)
end CROWS
/-! the same rows for a world whose first part, of p cells, is any -/
section LROWS
variable {K : KT} {cc : ByteArray} {nL : Nat} {own : String} {Ts : List Cond} {fr nc ns lo n sl pc L0 p : Nat} {lv : List (Nat × AV)} {st : List AV} {pre cl : GT → List va_E}
theorem al_newa (hK : KOC K cc nL own Ts fr nc ns lo L0) {atype : ArrayType} {ty : FieldType} (hp : ∀ G, (pre G).length = p) (t : Nat) {a0 : vp_A} {x : Int32} (N' k : Nat) (hL : ∀ G, (cl G).length = k) (hLn : p + k = L0 + n) (harr : Cond.arrayClass ty ∈ Ts) (hty : newarray.typeOf atype = ty) (htt : ∀ G : GT, (tysOf G)[t]? = some (G.2.2.1 t, ty)) (hprim : ∀ (U : State) (cA : ClassId), va_RA U cA ty → U.vm.findClass ("[" ++ ty.toString) = some cA) (ha : ∀ cA : ClassId, vp_cell cA a0 = arrV cA N' (fun _ => defaultValue ty)) (hn : ¬ x < 0) (hN : x.toNatClampNeg = N') (hbytes : N' * componentBytes ty ≤ 536870912) (hcn : n + 1 ≤ nc) (hsn : sl + N' ≤ ns)
    (d : decode cc pc = .ok (.newarray atype, 2)) (kk : AC K (n + 1) (sl + N') (pc + 2) lv (q_r (p + k) :: st) (fun G => pre G ++ (cl G ++ [.inl (G.2.2.1 t, a0)]))) : AC K n sl pc lv (q_i x :: st) (fun G => pre G ++ cl G) :=
  ac_newa hK t N' (p + k) (fun G => by rw [List.length_append, hp, hL]) hLn harr hty htt hprim ha hn hN hbytes hcn hsn d (ac_cw (fun G => List.append_assoc _ _ _) kk)
theorem al_new (hK : KOC K cc nL own Ts fr nc ns lo L0) {C : String} {T : u_T} {Nf idx ci : Nat} {ty : Nat → FieldType} (hp : ∀ G, (pre G).length = p) (fs : List Value) (k : Nat) (hL : ∀ G, (cl G).length = k) (hLn : p + k = L0 + n) (hcl : vwCl[ci]? = some (C, T, Nf)) (hty : ∀ k, k < Nf → parseFieldDescriptor (T k).2.2.1 = some (ty k)) (h1 : Cond.classLink own idx C ∈ Ts) (h2 : Cond.instantiable C Nf ∈ Ts) (h3 : Cond.initialized C ∈ Ts) (hfs : ∀ j, j < Nf → defaultValue (ty j) = vp_V fs j) (hcn : n + 1 ≤ nc) (hsn : sl + Nf ≤ ns)
    (d : decode cc pc = .ok (.new idx, 3)) (kk : AC K (n + 1) (sl + Nf) (pc + 3) lv (q_r (p + k) :: st) (fun G => pre G ++ (cl G ++ [.inr (ci, fs)]))) : AC K n sl pc lv st (fun G => pre G ++ cl G) :=
  ac_new hK fs (p + k) (fun G => by rw [List.length_append, hp, hL]) hLn hcl hty h1 h2 h3 hfs hcn hsn d (ac_cw (fun G => List.append_assoc _ _ _) kk)
theorem al_anew (hK : KOC K cc nL own Ts fr nc ns lo L0) {idx : Nat} {x : Int32} (hp : ∀ G, (pre G).length = p) (N' k : Nat) (hL : ∀ G, (cl G).length = k) (hLn : p + k = L0 + n) (h1 : Cond.classLink own idx RX3 ∈ Ts) (hn : ¬ x < 0) (hN : x.toNatClampNeg = N') (hbytes : N' * 4 ≤ 536870912) (hcn : n + 1 ≤ nc) (hsn : sl + N' ≤ ns)
    (d : decode cc pc = .ok (.anewarray idx, 3)) (kk : AC K (n + 1) (sl + N') (pc + 3) lv (q_r (p + k) :: st) (fun G => pre G ++ (cl G ++ [.inl (G.2.2.1 2, N', .inr (.inr (.inr (.inr (fun _ => none)))))]))) : AC K n sl pc lv (q_i x :: st) (fun G => pre G ++ cl G) :=
  ac_anew hK N' (p + k) (fun G => by rw [List.length_append, hp, hL]) hLn h1 hn hN hbytes hcn hsn d (ac_cw (fun G => List.append_assoc _ _ _) kk)
theorem pre_get {a b : List va_E} {i : Nat} (h : a.length = p) : (a ++ b)[p + i]? = b[i]? := by
  rw [List.getElem?_append_right (by omega)]; congr 1; omega
theorem pre_set {a b : List va_E} {i : Nat} {e : va_E} (h : a.length = p) : (a ++ b).set (p + i) e = a ++ b.set i e := by
  rw [List.set_append, if_neg (by omega), show p + i - a.length = i by omega]
theorem al_put {nc0 ns0 : Nat} {cw0 : GT → List va_E} (hK : KOC K cc nL own Ts fr nc ns lo L0) (hR : KRC K cw0 nc0 ns0) {i ci idx Nf : Nat} {C : String} {T : u_T} {ty0 : Nat → FieldType} {ty : FieldType} {v : AV} (hp : ∀ G, (pre G).length = p) (j : Nat) (fs : GT → List Value) (hcl : vwCl[ci]? = some (C, T, Nf)) (hi : ∀ G, (cl G)[i]? = some (.inr (ci, fs G))) (hj : j < Nf) (hty : ∀ k, k < Nf → parseFieldDescriptor (T k).2.2.1 = some (ty0 k)) (hnm : ∀ a, a < Nf → ∀ b, b < Nf → a ≠ b → (T a).2.1 ≠ (T b).2.1) (hlen : ∀ G, j < (fs G).length) (hdecl : (T j).1 = own) (hd : parseFieldDescriptor (T j).2.2.1 = some ty) (hn : ∀ G : GT, narrow ty (toV G v) = toV G v) (hfit : ∀ G : GT, fits ty (toV G v) = true) (hlk : Cond.fieldLink own idx (T j).1 (T j).2.1 (T j).2.2.1 ∈ Ts)
    (d : decode cc pc = .ok (.putfield idx, 3)) (kk : AC K n sl (pc + 3) lv st (fun G => pre G ++ (cl G).set i (.inr (ci, (fs G).set j (toV G v))))) : AC K n sl pc lv (v :: q_r (p + i) :: st) (fun G => pre G ++ cl G) :=
  ac_put hK hR (fs := fs) hcl (fun G => by rw [pre_get (hp G)]; exact hi G) hj hty hnm hlen hdecl hd hn hfit hlk d (ac_cw (fun G => pre_set (hp G)) kk)
theorem al_get (hK : KOC K cc nL own Ts fr nc ns lo L0) {i ci idx Nf : Nat} {C : String} {T : u_T} {v : AV} (hp : ∀ G, (pre G).length = p) (j : Nat) (fs : GT → List Value) (hcl : vwCl[ci]? = some (C, T, Nf)) (hi : ∀ G, (cl G)[i]? = some (.inr (ci, fs G))) (hj : j < Nf) (hv : ∀ G, (fs G)[j]? = some (toV G v)) (hlk : Cond.fieldLink own idx (T j).1 (T j).2.1 (T j).2.2.1 ∈ Ts) (d : decode cc pc = .ok (.getfield idx, 3)) (kk : AC K n sl (pc + 3) lv (v :: st) (fun G => pre G ++ cl G)) : AC K n sl pc lv (q_r (p + i) :: st) (fun G => pre G ++ cl G) :=
  ac_get hK (fs := fs) hcl (fun G => by rw [pre_get (hp G)]; exact hi G) hj hv hlk d kk
theorem al_aast (hK : KOC K cc nL own Ts fr nc ns lo L0) {i v : Nat} {x : Int32} {N' : Nat} (hp : ∀ G, (pre G).length = p) (fs : GT → List Value) (f : GT → Nat → Option Nat) (hi : ∀ G, (cl G)[i]? = some (.inl (G.2.2.1 2, N', .inr (.inr (.inr (.inr (f G))))))) (hv : ∀ G, (cl G)[v]? = some (.inr (3, fs G))) (hin : inb x N' = true) (d : decode cc pc = .ok (.aastore, 1)) (kk : AC K n sl (pc + 1) lv st (fun G => pre G ++ (cl G).set i (.inl (G.2.2.1 2, N', .inr (.inr (.inr (.inr (va_up (f G) (ix x) (some (G.2.2.2 (p + v)))))))))) ) : AC K n sl pc lv (q_r (p + v) :: q_i x :: q_r (p + i) :: st) (fun G => pre G ++ cl G) :=
  ac_aast hK (f := f) (fs := fs) (fun G => by rw [pre_get (hp G)]; exact hi G) (fun G => by rw [pre_get (hp G)]; exact hv G) hin d (ac_cw (fun G => pre_set (hp G)) kk)
/-- a constructor's contract, wherever its object lies as the last cell -/
def TrD (y : MethodName) (ws : List Cond) (fr lo nc ns : Nat) (blank : va_E) (cells : Nat → GT → List va_E) : Prop :=
  ∀ (p : Nat) (pre : GT → List va_E), (∀ G, (pre G).length = p) → TrC y ws fr lo nc ns p (fun G => pre G ++ [blank]) (fun G => pre G ++ cells p G)
theorem al_ciN {y : MethodName} {ws ws' : List Cond} {bytes : ByteArray} {maxL idx fr' lo' nc' ns' : Nat} {host : String} {blank : va_E} {cells : Nat → GT → List va_E} (hK : KOC K cc nL own Ts fr nc ns lo L0) (hAq : (match K with | (_, _, _, _, _, _, _, _, _, _, G, A, _) => ∀ q, frD G q → A q)) (hM : TrD y ws fr' lo' nc' ns' blank cells) (hp : ∀ G, (pre G).length = p) (k : Nat) (hL : ∀ G, (cl G).length = k) (hLn : p + k + 1 = L0 + n) (hG : GoodIn Ts ws) (hw : ws = Cond.code y bytes maxL none :: ws') (hne : (own, idx, y, host) ∈ q_nest) (hini : Cond.initialized y.cls ∈ Ts) (hins : Cond.instanceMethod y ∈ Ts) (hy1 : y.name = "<init>")
    (hd : y.cls ≠ "java/lang/invoke/MethodHandle" ∧ y.cls ≠ "java/lang/invoke/VarHandle" ∧ (parseMethodDescriptor y.desc).map (fun d => d.parameters.length) = some 0) (hR : fr' + 1 ≤ fr ∧ 8 + (maxL + 11) + lo' ≤ lo) (hn : n + nc' ≤ nc) (hs2 : sl + ns' ≤ ns) (hst : (st.map qcat).sum ≤ 8)
    (d : decode cc pc = .ok (.invokespecial idx, 3)) (kk : AC K (n + nc') (sl + ns') (pc + 3) lv st (fun G => pre G ++ (cl G ++ cells (p + k) G))) : AC K n sl pc lv (q_r (p + k) :: st) (fun G => pre G ++ (cl G ++ [blank])) := by
  refine ac_cw (cw' := fun G => (pre G ++ cl G) ++ [blank]) (fun G => (List.append_assoc _ _ _).symm) ?_
  refine ac_ciN hK hAq (hM (p + k) (fun G => pre G ++ cl G) (fun G => by rw [List.length_append, hp, hL])) (p + k + 1) (fun G => by rw [List.length_append, List.length_append, hp, hL]; rfl) hLn hG hw hne hini hins hy1 hd hR hn hs2 hst d ?_
  exact ac_cw (fun G => List.append_assoc _ _ _) kk
end LROWS
section PCALL
variable {K : KT} {cc : ByteArray} {nL : Nat} {own : String} {Ts : List Cond} {fr nc ns lo n sl pc L0 p : Nat} {lv : List (Nat × AV)} {st : List AV} {pre cl : GT → List va_E} {cw cw' : GT → List va_E}
theorem ac_ciP {y : MethodName} {ws ws' : List Cond} {bytes : ByteArray} {maxL idx fr' lo' nc' ns' i : Nat} (hK : KOC K cc nL own Ts fr nc ns lo L0) (hAq : (match K with | (_, _, _, _, _, _, _, _, _, _, G, A, _) => ∀ q, frD G q → A q)) (hM : TrC y ws fr' lo' nc' ns' i cw cw') (L : Nat) (hL : ∀ G, (cw G).length = L) (hLn : L = L0 + n) (hG : GoodIn Ts ws) (hw : ws = Cond.code y bytes maxL none :: ws') (hini : Cond.initialized y.cls ∈ Ts) (hml1 : Cond.methodLink own idx y ∈ Ts) (hins : Cond.instanceMethod y ∈ Ts) (hy1 : y.name = "<init>")
    (hd : y.cls ≠ "java/lang/invoke/MethodHandle" ∧ y.cls ≠ "java/lang/invoke/VarHandle" ∧ (parseMethodDescriptor y.desc).map (fun d => d.parameters.length) = some 0) (hR : fr' + 1 ≤ fr ∧ 8 + (maxL + 11) + lo' ≤ lo) (hn : n + nc' ≤ nc) (hs2 : sl + ns' ≤ ns) (hst : (st.map qcat).sum ≤ 8)
    (d : decode cc pc = .ok (.invokespecial idx, 3)) (k : AC K (n + nc') (sl + ns') (pc + 3) lv st cw') : AC K n sl pc lv (q_r i :: st) cw := by
  obtain ⟨p, l, e, R, s, mm, args, below, meth, c, G, A, Z⟩ := K
  intro H locs ls hP hS hl
  obtain ⟨hx, hb, hml, hown, hts, hGO, hlk, hRm, had, hAi, hs0⟩ := id hK
  intro T hT X
  have hz : H.size = G.2.2.2 (cw G).length := by rw [hL]; exact size_of had hP (hL G) hLn hs0 hS.1 (by rw [← hT]; exact X.heapSize)
  have run := va_runI (As := []) (b := G.2.2.2 i) (rest := st.map (toV G)) (H := H) (locs := locs) (cells := n) (slots := sl) (g := F0 mm pc ls ((q_r i :: st).map (toV G))) (e := e) (below := below) (meth := meth) ⟨hx, hb, hml, hown, hts⟩ (hM l G had) (cwI (R := R) 0 hts hG hw rfl rfl (hts _ hini) (hts _ hml1) (hts _ hins) hy1 hd ⟨Nat.le_trans hR.1 hRm.1, Nat.le_trans hR.2 hRm.2.1⟩)
    ⟨PcC_blind _ _ _, fun U hU hW => ⟨rfl, by rw [hU]; exact hP, by rw [hU]; exact hz, hGO.moved hW⟩⟩ rfl rfl (hl.1.trans hml) rfl (lv_room (by rw [qsum_eq]; exact hst)) d ⟨Nat.le_trans hn hRm.2.2.1, Nat.le_trans hs2 hRm.2.2.2⟩
  exact ac_runC run hS hAq (fun H1 locs1 hP1 hS1 => k H1 locs1 ls hP1 hS1 hl) T hT X
theorem al_ciP {y : MethodName} {ws ws' : List Cond} {bytes : ByteArray} {maxL idx fr' lo' nc' ns' : Nat} {blank : va_E} {cells : Nat → GT → List va_E} (hK : KOC K cc nL own Ts fr nc ns lo L0) (hAq : (match K with | (_, _, _, _, _, _, _, _, _, _, G, A, _) => ∀ q, frD G q → A q)) (hM : TrD y ws fr' lo' nc' ns' blank cells) (hp : ∀ G, (pre G).length = p) (k : Nat) (hL : ∀ G, (cl G).length = k) (hLn : p + k + 1 = L0 + n) (hG : GoodIn Ts ws) (hw : ws = Cond.code y bytes maxL none :: ws') (hini : Cond.initialized y.cls ∈ Ts) (hml1 : Cond.methodLink own idx y ∈ Ts) (hins : Cond.instanceMethod y ∈ Ts) (hy1 : y.name = "<init>")
    (hd : y.cls ≠ "java/lang/invoke/MethodHandle" ∧ y.cls ≠ "java/lang/invoke/VarHandle" ∧ (parseMethodDescriptor y.desc).map (fun d => d.parameters.length) = some 0) (hR : fr' + 1 ≤ fr ∧ 8 + (maxL + 11) + lo' ≤ lo) (hn : n + nc' ≤ nc) (hs2 : sl + ns' ≤ ns) (hst : (st.map qcat).sum ≤ 8)
    (d : decode cc pc = .ok (.invokespecial idx, 3)) (kk : AC K (n + nc') (sl + ns') (pc + 3) lv st (fun G => pre G ++ (cl G ++ cells (p + k) G))) : AC K n sl pc lv (q_r (p + k) :: st) (fun G => pre G ++ (cl G ++ [blank])) := by
  refine ac_cw (cw' := fun G => (pre G ++ cl G) ++ [blank]) (fun G => (List.append_assoc _ _ _).symm) ?_
  refine ac_ciP hK hAq (hM (p + k) (fun G => pre G ++ cl G) (fun G => by rw [List.length_append, hp, hL])) (p + k + 1) (fun G => by rw [List.length_append, List.length_append, hp, hL]; rfl) hLn hG hw hini hml1 hins hy1 hd hR hn hs2 hst d ?_
  exact ac_cw (fun G => List.append_assoc _ _ _) kk
theorem ac_astore_n (hK : KOC K cc nL own Ts fr nc ns lo L0) {kk : Fin 4} {x : Nat} (lv' : List (Nat × AV)) (hn : kk.val < nL) (h : (kk.val, q_r x) :: lv.filter (fun q => !(q.1 == kk.val) && !(q.1 + 1 == kk.val && qcat q.2 == 2)) = lv') (d : decode cc pc = .ok (.astore_n kk, 1)) (k : AC K n sl (pc + 1) lv' st cw) : AC K n sl pc lv (q_r x :: st) cw := by
  obtain ⟨p, l, e, R, s, mm, args, below, meth, c, G, A, Z⟩ := K
  intro H locs ls hP hS hl
  subst h
  exact lv_astore_n hK.1 hK.2.1 d rfl hl (by rw [hK.2.2.1]; exact hn) rfl (fun ls' hl' => k H locs ls' hP hS (lvm_get hl'))
theorem ac_istore (hK : KOC K cc nL own Ts fr nc ns lo L0) {j : Nat} {x : Int32} (lv' : List (Nat × AV)) (hn : j < nL) (h : (j, q_i x) :: lv.filter (fun q => !(q.1 == j) && !(q.1 + 1 == j && qcat q.2 == 2)) = lv') (d : decode cc pc = .ok (.istore j, 2)) (k : AC K n sl (pc + 2) lv' st cw) : AC K n sl pc lv (q_i x :: st) cw := by
  obtain ⟨p, l, e, R, s, mm, args, below, meth, c, G, A, Z⟩ := K
  intro H locs ls hP hS hl
  subst h
  exact lv_istore hK.1 hK.2.1 d hl (by rw [hK.2.2.1]; exact hn) rfl (fun ls' hl' => k H locs ls' hP hS (lvm_get hl'))
end PCALL
