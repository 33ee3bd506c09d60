/-! the law and its methods: longs, the script, handlers -/
def TrW (y : MethodName) (ws : List Cond) (fr lo N : Nat) (as : List AV) (m : Mem) (r : Int32) (m' : Mem) : Prop :=
  ∀ (l : Launch) (G : GT) (sz : Nat), l.stackTraces = false → Met l y ws { frames := fr, cells := N, slots := 16 * N, locals := lo } (PcX G sz as m) (QcX G sz (.inl (some r)) m') N (16 * N) (frX G sz)
def KW : KT → Option FieldType → Int32 → Mem → Nat → List (Nat × Nat × Nat × Nat) → Prop
  | (_, l, _, _, s, _, args, below, meth, c, G, A, Z), ret, r, m', N, hh =>
    meth.sig.returnType = ret ∧ A = frX G s.heap.size ∧ Z = MQ below (QcX G s.heap.size (.inl (some r)) m') args s N (16 * N) (frX G s.heap.size) ∧ l.stackTraces = false ∧ GX (frX G s.heap.size) s s.heap ∧ c.exceptionTable.toList = tableOf hh
theorem kwb {K : KT} {ret : Option FieldType} {r : Int32} {m' : Mem} {N : Nat} {hh : List (Nat × Nat × Nat × Nat)} (h : KW K ret r m' N hh) : KB K := by
  obtain ⟨p, l, e, R, s, mm, args, below, meth, c, G, A, Z⟩ := K
  exact ⟨h.2.1, h.2.2.2.1, h.2.2.2.2.1⟩
def calw {α β : Type} (o : Option ((α ⊕ Nat) × Mem)) (f : α → Mem → Option β) (g : Nat → Mem → Option β) : Option β := match o with
  | some (.inl r, m) => f r m
  | some (.inr x, m) => g x m
  | none => none
theorem calw_some {α β : Type} {o : Option ((α ⊕ Nat) × Mem)} {f : α → Mem → Option β} {g : Nat → Mem → Option β} {r : β} (h : calw o f g = some r) : (∃ x m, o = some (.inl x, m) ∧ f x m = some r) ∨ (∃ x m, o = some (.inr x, m) ∧ g x m = some r) := by
  rcases o with _ | ⟨x | x, m⟩
  · cases h
  · exact Or.inl ⟨x, m, rfl, h⟩
  · exact Or.inr ⟨x, m, rfl, h⟩
def calL {α β : Type} (o : Option ((α ⊕ Nat) × Mem)) (f : α → Mem → Option β) : Option β := match o with
  | some (.inl r, m) => f r m
  | some (.inr _, _) => none
  | none => none
theorem calL_some {α β : Type} {o : Option ((α ⊕ Nat) × Mem)} {f : α → Mem → Option β} {r : β} (h : calL o f = some r) : ∃ x m, o = some (.inl x, m) ∧ f x m = some r := by
  rcases o with _ | ⟨x | x, m⟩
  · cases h
  · exact ⟨x, m, rfl, h⟩
  · cases h
abbrev l_shl (x : Int64) (y : Int32) : Int64 := x <<< (y.toInt64 &&& 63)
abbrev l_shr (x : Int64) (y : Int32) : Int64 := x >>> (y.toInt64 &&& 63)
/-- the world with told's array at a -/
def gT (G : GT) (a : Nat) : GT := (G.1, G.2.1, G.2.2.1, fun k => if k = 2147483649 then a else if k = 2147483651 then 1 else G.2.2.2 k)
def KTo : KT → Prop
  | (_, _, _, _, _, _, _, _, _, _, G, _, _) => flg G = true
def KFl : KT → Prop
  | (_, _, _, _, _, _, _, _, _, _, G, _, _) => flg G = false
/-- the end of isBack, in a world that may have told -/
def KRb : KT → Int32 → Mem → Nat → Prop
  | (_, _, _, _, s, _, args, below, meth, _, G, A, Z), r, m', N => ∃ G0 : GT, flg G0 = false ∧ (G = G0 ∨ ∃ a : Nat, s.heap.size ≤ a ∧ G = gT G0 a) ∧ meth.sig.returnType = some .boolean ∧ A = frX G0 s.heap.size ∧ Z = MQ below (QcX G0 s.heap.size (.inl (some r)) m') args s N (16 * N) (frX G0 s.heap.size)
def TrB (y : MethodName) (ws : List Cond) (fr lo N : Nat) (as : List AV) (m : Mem) (r : Int32) (m' : Mem) : Prop :=
  ∀ (l : Launch) (G : GT) (sz : Nat), flg G = false → Met l y ws { frames := fr, cells := N, slots := 16 * N, locals := lo } (PcX G sz as m) (QcX G sz (.inl (some r)) m') N (16 * N) (frX G sz)
theorem flg_gT (G : GT) (a : Nat) : flg (gT G a) = true := by simp [flg, gT]
theorem gT_ad {G : GT} {a k : Nat} (h1 : k ≠ 2147483649) (h2 : k ≠ 2147483651) : (gT G a).2.2.2 k = G.2.2.2 k := by
  show (if k = 2147483649 then a else if k = 2147483651 then 1 else G.2.2.2 k) = _
  rw [if_neg h1, if_neg h2]
theorem cn_lt (x : Int32) : x.toNatClampNeg < 2147483648 := by
  have h := x.toInt_lt
  rw [show x.toNatClampNeg = x.toInt.toNat from rfl]
  omega
theorem live_lo {G : GT} {k : Nat} (hf : flg G = false) (h : live G k) : k < 300 := by
  rcases Nat.lt_or_ge k 300 with q2 | q2
  · exact q2
  · have e := knd_up h.1 q2
    subst e
    exact absurd (h.2 (by decide +kernel)) (by rw [hf]; decide)
theorem cell_gT {G : GT} {a k : Nat} (hk : k < 300) (f : Nat → Int32) : cell (gT G a) k f = cell G k f := by
  have h1 : ∀ j, j < 400 → (gT G a).2.2.2 j = G.2.2.2 j := fun j hj => gT_ad (by omega) (by omega)
  have h2 : ∀ x : Int32, (gT G a).2.2.2 x.toNatClampNeg = G.2.2.2 x.toNatClampNeg := fun x => by
    have := cn_lt x
    exact gT_ad (by omega) (by omega)
  have h3 : (fun i => some ((gT G a).2.2.2 (200 + 4 * i))) = fun i => some (G.2.2.2 (200 + 4 * i)) := funext fun i => by rw [gT_ad (by omega) (by omega)]
  have h4 : flds (gT G a) (knd k) k f = flds G (knd k) k f := by
    unfold flds
    split <;> simp only [h2, h1 (k + 1) (by omega), h1 (k + 2) (by omega), h1 (k + 3) (by omega), h1 (k + 4) (by omega), h1 (k + 5) (by omega), h1 (k + 6) (by omega), h1 (k + 7) (by omega), h1 (k + 8) (by omega), h1 (k + 9) (by omega), h1 (k + 10) (by omega), h1 (k + 11) (by omega), h1 (k + 12) (by omega), h1 (k + 15) (by omega), h1 (k + 20) (by omega), h1 (k + 40) (by omega), h1 (k + 60) (by omega)]
  unfold cell
  rw [h3, h4]
  rfl
theorem frX_gT {G : GT} {a sz : Nat} (hf : flg G = false) (ha : sz ≤ a) : frX (gT G a) sz = frX G sz := by
  funext q
  apply propext
  constructor
  · rintro (⟨k, hk, e⟩ | h)
    · by_cases h3 : k < 300
      · refine Or.inl ⟨k, ⟨hk.1, fun h4 => ?_⟩, by rw [e, gT_ad (by omega) (by omega)]⟩
        have := knd_14 h4
        omega
      · have e2 := knd_up hk.1 (by omega)
        subst e2
        refine Or.inr ?_
        rw [e]
        exact ha
    · exact Or.inr h
  · rintro (⟨k, hk, e⟩ | h)
    · have h3 := live_lo hf hk
      exact Or.inl ⟨k, ⟨hk.1, fun h4 => flg_gT G a⟩, by rw [e, gT_ad (by omega) (by omega)]⟩
    · exact Or.inr h
theorem va_P_gT {G : GT} {a : Nat} {m : Mem} {H : Heap} (hf : flg G = false) (h : va_P ((gT G a).1, (gT G a).2.1) vwCl (wsOf (gT G a) m) H) : va_P (G.1, G.2.1) vwCl (wsOf G m) H := by
  intro i p hi
  obtain ⟨k, h1, h2, rfl⟩ := ws_inv hi
  have h3 := live_lo hf h2
  have hl : live (gT G a) k := ⟨h2.1, fun _ => flg_gT G a⟩
  obtain ⟨j, hj⟩ := ws_atB hl
  have h4 := h j _ (ws_get hj m)
  rw [gT_ad (by omega) (by omega), cell_gT h3] at h4
  exact h4
section WROWS
variable {K : KT} {cc : ByteArray} {nL : Nat} {own : String} {Ts : List Cond} {fr N lo n pc : Nat} {lv : List (Nat × AV)} {st : List AV} {m : Mem}
  {y : MethodName} {ws ws' : List Cond} {bytes : ByteArray} {maxL idx fr' lo' kc na N' : Nat} {C : String} {T : u_T} {as : List AV} {r : Option Int32} {m1 m' : Mem} {ret : Option FieldType} {hh : List (Nat × Nat × Nat × Nat)}
theorem aw_i2l (hK : KOK K cc nL own Ts fr N lo) {x : Int32} (d : decode cc pc = .ok (.i2l, 1)) (k : AW K n (pc + 1) lv (q_v (.long x.toInt64) :: st) m) : AW K n pc lv (q_i x :: st) m := by
  obtain ⟨p, l, e, R, s, mm, args, below, meth, c, G, A, Z⟩ := K
  intro H locs ls hP hS hl
  exact lv_i2l hK.1 hK.2.1 d rfl (k H locs ls hP hS hl)
theorem aw_ladd (hK : KOK K cc nL own Ts fr N lo) {x y : Int64} (d : decode cc pc = .ok (.ladd, 1)) (k : AW K n (pc + 1) lv (q_v (.long (x + y)) :: st) m) : AW K n pc lv (q_v (.long y) :: q_v (.long x) :: st) m := by
  obtain ⟨p, l, e, R, s, mm, args, below, meth, c, G, A, Z⟩ := K
  intro H locs ls hP hS hl
  exact lv_ladd hK.1 hK.2.1 d (k H locs ls hP hS hl)
theorem aw_lsub (hK : KOK K cc nL own Ts fr N lo) {x y : Int64} (d : decode cc pc = .ok (.lsub, 1)) (k : AW K n (pc + 1) lv (q_v (.long (x - y)) :: st) m) : AW K n pc lv (q_v (.long y) :: q_v (.long x) :: st) m := by
  obtain ⟨p, l, e, R, s, mm, args, below, meth, c, G, A, Z⟩ := K
  intro H locs ls hP hS hl
  exact lv_lsub hK.1 hK.2.1 d (k H locs ls hP hS hl)
theorem aw_lmul (hK : KOK K cc nL own Ts fr N lo) {x y : Int64} (d : decode cc pc = .ok (.lmul, 1)) (k : AW K n (pc + 1) lv (q_v (.long (x * y)) :: st) m) : AW K n pc lv (q_v (.long y) :: q_v (.long x) :: st) m := by
  obtain ⟨p, l, e, R, s, mm, args, below, meth, c, G, A, Z⟩ := K
  intro H locs ls hP hS hl
  exact lv_lmul hK.1 hK.2.1 d (k H locs ls hP hS hl)
theorem aw_land (hK : KOK K cc nL own Ts fr N lo) {x y : Int64} (d : decode cc pc = .ok (.land, 1)) (k : AW K n (pc + 1) lv (q_v (.long (x &&& y)) :: st) m) : AW K n pc lv (q_v (.long y) :: q_v (.long x) :: st) m := by
  obtain ⟨p, l, e, R, s, mm, args, below, meth, c, G, A, Z⟩ := K
  intro H locs ls hP hS hl
  exact lv_land hK.1 hK.2.1 d (k H locs ls hP hS hl)
theorem aw_lor (hK : KOK K cc nL own Ts fr N lo) {x y : Int64} (d : decode cc pc = .ok (.lor, 1)) (k : AW K n (pc + 1) lv (q_v (.long (x ||| y)) :: st) m) : AW K n pc lv (q_v (.long y) :: q_v (.long x) :: st) m := by
  obtain ⟨p, l, e, R, s, mm, args, below, meth, c, G, A, Z⟩ := K
  intro H locs ls hP hS hl
  exact lv_lor hK.1 hK.2.1 d (k H locs ls hP hS hl)
theorem aw_lshl (hK : KOK K cc nL own Ts fr N lo) {x : Int64} {y : Int32} (d : decode cc pc = .ok (.lshl, 1)) (k : AW K n (pc + 1) lv (q_v (.long (l_shl x y)) :: st) m) : AW K n pc lv (q_i y :: q_v (.long x) :: st) m := by
  obtain ⟨p, l, e, R, s, mm, args, below, meth, c, G, A, Z⟩ := K
  intro H locs ls hP hS hl
  exact lv_lshl hK.1 hK.2.1 d rfl (k H locs ls hP hS hl)
theorem aw_lshr (hK : KOK K cc nL own Ts fr N lo) {x : Int64} {y : Int32} (d : decode cc pc = .ok (.lshr, 1)) (k : AW K n (pc + 1) lv (q_v (.long (l_shr x y)) :: st) m) : AW K n pc lv (q_i y :: q_v (.long x) :: st) m := by
  obtain ⟨p, l, e, R, s, mm, args, below, meth, c, G, A, Z⟩ := K
  intro H locs ls hP hS hl
  exact lv_lshr hK.1 hK.2.1 d rfl (k H locs ls hP hS hl)
theorem aw_lconst (hK : KOK K cc nL own Ts fr N lo) {z : Fin 2} (v : Int64) (hv : Int64.ofNat (z : Nat) = v) (d : decode cc pc = .ok (.lconst z, 1)) (k : AW K n (pc + 1) lv (q_v (.long v) :: st) m) : AW K n pc lv st m := by
  obtain ⟨p, l, e, R, s, mm, args, below, meth, c, G, A, Z⟩ := K
  intro H locs ls hP hS hl
  exact lv_lconst hK.1 hK.2.1 d hv (k H locs ls hP hS hl)
theorem aw_ldc2 (hK : KOK K cc nL own Ts fr N lo) {idx : Nat} (v : Int64) (hv : Cond.constantLong own idx v ∈ Ts) (d : decode cc pc = .ok (.ldc2_w idx, 3)) (k : AW K n (pc + 3) lv (q_v (.long v) :: st) m) : AW K n pc lv st m := by
  obtain ⟨p, l, e, R, s, mm, args, below, meth, c, G, A, Z⟩ := K
  intro H locs ls hP hS hl
  exact lv_ldc2 hK.1 hK.2.1 hK.2.2.2.1 (hK.2.2.2.2.1 _ hv) d (k H locs ls hP hS hl)
theorem aw_lload (hK : KOK K cc nL own Ts fr N lo) {j : Nat} {x : Int64} (i : Nat) (hk : lv[i]? = some (j, q_v (.long x))) (d : decode cc pc = .ok (.lload j, 2)) (k : AW K n (pc + 2) lv (q_v (.long x) :: st) m) : AW K n pc lv st m := by
  obtain ⟨p, l, e, R, s, mm, args, below, meth, c, G, A, Z⟩ := K
  intro H locs ls hP hS hl
  exact lv_lload hK.1 hK.2.1 d (lvm_at hl hk) (k H locs ls hP hS hl)
theorem lvm_get2 {G : GT} {ls : Array Slot} {nL i : Nat} {lv : List (Nat × AV)} {a : AV} (hl : lv_has ls nL ((i, toV G a) :: (lv.map fun q => (q.1, toV G q.2)).filter (fun q => !(q.1 == i) && (!(q.1 == i + 1) && !(q.1 + 1 == i && q.2.category == 2))))) :
    lv_has ls nL (((i, a) :: lv.filter (fun q => !(q.1 == i) && (!(q.1 == i + 1) && !(q.1 + 1 == i && qcat q.2 == 2)))).map fun q => (q.1, toV G q.2)) := by
  have e : (lv.map fun q => (q.1, toV G q.2)).filter (fun q => !(q.1 == i) && (!(q.1 == i + 1) && !(q.1 + 1 == i && q.2.category == 2))) = (lv.filter (fun q => !(q.1 == i) && (!(q.1 == i + 1) && !(q.1 + 1 == i && qcat q.2 == 2)))).map fun q => (q.1, toV G q.2) := by
    rw [List.filter_map]
    congr 1
    apply List.filter_congr
    intro q _
    simp only [Function.comp, qcat_eq]
  rw [e] at hl
  exact hl
theorem aw_lstore (hK : KOK K cc nL own Ts fr N lo) {j : Nat} {x : Int64} (lv' : List (Nat × AV)) (hn : j + 1 < nL) (h : (j, q_v (.long x)) :: lv.filter (fun q => !(q.1 == j) && (!(q.1 == j + 1) && !(q.1 + 1 == j && qcat q.2 == 2))) = lv') (d : decode cc pc = .ok (.lstore j, 2)) (k : AW K n (pc + 2) lv' st m) : AW K n pc lv (q_v (.long x) :: st) m := by
  obtain ⟨p, l, e, R, s, mm, args, below, meth, c, G, A, Z⟩ := K
  intro H locs ls hP hS hl
  subst h
  exact lv_lstore hK.1 hK.2.1 d hl (by rw [hK.2.2.1]; exact hn) rfl (fun ls' hl' => k H locs ls' hP hS (lvm_get2 (a := q_v (.long x)) hl'))
theorem aw_nl {x y : Int64} (h : x = y) (k : AW K n pc lv (q_v (.long y) :: st) m) : AW K n pc lv (q_v (.long x) :: st) m := by subst h; exact k
theorem aw_lcmp (hK : KOK K cc nL own Ts fr N lo) {x y : Int64} (d : decode cc pc = .ok (.lcmp, 1)) (k : AW K n (pc + 1) lv (q_i (lg_cmp x y) :: st) m) : AW K n pc lv (q_v (.long y) :: q_v (.long x) :: st) m := by
  obtain ⟨p, l, e, R, s, mm, args, below, meth, c, G, A, Z⟩ := K
  intro H locs ls hP hS hl
  exact W.lcmp hK.1 hK.2.1 d (k H locs ls hP hS hl)
theorem aw_tald (hK : KOK K cc nL own Ts fr N lo) (hT : KTo K) {i : Int32} (hi : inb i 8 = true) (d : decode cc pc = .ok (.iaload, 1)) (k : AW K n (pc + 1) lv (q_i (m 2147483649 (ix i)) :: st) m) : AW K n pc lv (q_i i :: q_r 2147483649 :: st) m := by
  obtain ⟨p, l, e, R, s, mm, args, below, meth, c, G, A, Z⟩ := K
  intro H locs ls hP hS hl
  obtain ⟨hx, hb, -, hown, hts, hG, -, -, -⟩ := id hK
  have hT : flg G = true := hT
  obtain ⟨z, hz⟩ := ws_atB (b := flg G) (k := 2147483649) ⟨by decide +kernel, fun _ => hT⟩
  exact va_iald hx hb hG.1 hP z 0 (by rw [ws_get hz, cell_l G (by decide +kernel)]) rfl (inb_in hi) d (k H locs ls hP hS hl)
theorem aw_tast (hK : KOK K cc nL own Ts fr N lo) (hT : KTo K) {i x : Int32} (hi : inb i 8 = true) (d : decode cc pc = .ok (.iastore, 1)) (k : AW K n (pc + 1) lv st (mup m 2147483649 (ix i) x)) : AW K n pc lv (q_i x :: q_i i :: q_r 2147483649 :: st) m := by
  obtain ⟨p, l, e, R, s, mm, args, below, meth, c, G, A, Z⟩ := K
  intro H locs ls hP hS hl
  obtain ⟨hx, hb, -, hown, hts, hG, -, -, hA⟩ := id hK
  have hT : flg G = true := hT
  obtain ⟨z, hz⟩ := ws_atB (b := flg G) (k := 2147483649) ⟨by decide +kernel, fun _ => hT⟩
  have h14 : knd 2147483649 = 14 := by decide +kernel
  refine va_iast hx hb hG.1 hP (ws_D hG.2.2.2 hA m) hS z 0 (by rw [ws_get hz, cell_l G h14]) rfl (inb_in hi) d (fun H1 locs1 hP1 _ hS1 => k H1 locs1 ls ?_ hS1 hl)
  rw [← mup_k, ← cell_l G h14, ws_set hz (fun k' h => mup_o m 2147483649 (ix i) x h)] at hP1
  exact hP1
theorem aw_newTold {r : Int32} (hK : KOK K cc nL own Ts fr N lo) (hR : KRb K r m' 1) (hT : KFl K) (harr : Cond.arrayClass .int ∈ Ts) (hlv : ∀ (G : GT) (a : Nat), lv.map (fun q => (q.1, toV (gT G a) q.2)) = lv.map (fun q => (q.1, toV G q.2))) (hst : ∀ (G : GT) (a : Nat), st.map (toV (gT G a)) = st.map (toV G)) (hN : n + 1 ≤ N) (d : decode cc pc = .ok (.newarray .int, 2))
    (k : ∀ K' : KT, KOK K' cc nL own Ts fr N lo → KRb K' r m' 1 → KTo K' → AW K' (n + 1) (pc + 2) lv (q_r 2147483649 :: st) (mrw m 2147483649 (fun _ => 0))) : AW K n pc lv (q_i 8 :: st) m := by
  obtain ⟨p, l, e, R, s, mm, args, below, meth, c, G, A, Z⟩ := K
  intro H locs ls hP hS hl
  obtain ⟨hx, hb, hml, hown, hts, hGO, hlk, hRm, hA⟩ := id hK
  obtain ⟨G0, hf0, hG, hret, hAe, hZ⟩ := id hR
  have hT : flg G = false := hT
  have hG : G = G0 := by
    rcases hG with h | ⟨a, -, h⟩
    · exact h
    · rw [h, flg_gT] at hT
      cases hT
  subst hG
  refine va_newaK (atype := .int) hx hb (show (Cond.arrayClass (newarray.typeOf .int)).before args s = true from hts _ harr) rfl d rfl (by decide) (N := 8) (by decide) (by decide) (Nat.le_trans hN hRm.2.2.1) (Nat.le_trans (by omega) (Nat.le_trans (Nat.mul_le_mul_left 16 hN) hRm.2.2.2)) rfl fun H1 cA e1 z1 o1 hAr hNm => ?_
  have hcA : cA = G.2.2.1 0 := Option.some.inj (hNm.symm.trans (hGO.1.2 0 _ rfl).2)
  subst hcA
  have hin : ∀ kk, live G kk → (G.2.2.2 kk : Nat) < H.size := fun kk hk => by
    obtain ⟨i, hi⟩ := ws_atB hk
    exact (hP i _ (ws_get hi m)).lt
  have hlo : ∀ kk, live (gT G H.size) kk → (kk < 300 ∧ live G kk) ∨ kk = 2147483649 := fun kk hk => by
    by_cases h3 : kk < 300
    · refine Or.inl ⟨h3, hk.1, fun h4 => ?_⟩
      have := knd_14 h4
      omega
    · exact Or.inr (knd_up hk.1 (by omega))
  have hGO' : GOK (gT G H.size) s := by
    refine ⟨hGO.1, hGO.2.1, hGO.2.2.1, fun k1 k2 h1 h2 he => ?_⟩
    rcases hlo k1 h1 with ⟨a1, b1⟩ | a1 <;> rcases hlo k2 h2 with ⟨a2, b2⟩ | a2
    · rw [gT_ad (by omega) (by omega), gT_ad (by omega) (by omega)] at he
      exact hGO.2.2.2 k1 k2 b1 b2 he
    · subst a2
      rw [gT_ad (by omega) (by omega)] at he
      have h3 := hin k1 b1
      have he : G.2.2.2 k1 = H.size := he
      omega
    · subst a1
      rw [gT_ad (k := k2) (by omega) (by omega)] at he
      have h3 := hin k2 b2
      have he : H.size = G.2.2.2 k2 := he
      omega
    · rw [a1, a2]
  have hK' : KOK (p, l, e, R, s, mm, args, below, meth, c, gT G H.size, A, Z) cc nL own Ts fr N lo :=
    ⟨hx, hb, hml, hown, hts, hGO', hlk, hRm, fun kk hk => by
      rcases hlo kk hk with ⟨a1, b1⟩ | a1
      · rw [gT_ad (by omega) (by omega)]
        exact hA kk b1
      · subst a1
        rw [hAe]
        exact Or.inr hS.1⟩
  have k1 := k _ hK' ⟨G, hf0, Or.inr ⟨H.size, hS.1, rfl⟩, hret, hAe, hZ⟩ (flg_gT G H.size)
  refine W.widen (Nat.le_refl _) (by omega : 16 * n + 8 ≤ 16 * (n + 1)) ?_
  have k2 := k1 H1 locs ls ?_ ⟨Nat.le_trans hS.1 (by omega), fun q h1 h2 => (o1 q (Nat.lt_of_lt_of_le h1 hS.1)).trans (hS.2.1 q h1 h2), hS.2.2⟩ (by rw [hlv]; exact hl)
  · have e3 : (q_r 2147483649 :: st).map (toV (gT G H.size)) = Value.ref H.size :: st.map (toV G) := by
      rw [List.map_cons, hst]
      rfl
    rw [e3] at k2
    exact k2
  · intro i q hi
    obtain ⟨kk, h1, h2, rfl⟩ := ws_inv hi
    rcases hlo kk h2 with ⟨a1, b1⟩ | a1
    · obtain ⟨j, hj⟩ := ws_atB b1
      have h5 := hP j _ (ws_get hj m)
      have h6 := h5.kept (o1 _ h5.lt)
      rw [gT_ad (by omega) (by omega), cell_gT a1, mrw_o m 2147483649 _ (by omega)]
      exact h6
    · subst a1
      rw [cell_l _ (by decide +kernel), mrw_k]
      show H1[H.size]? = some (vp_cell (G.2.2.1 0) (8, .inl (fun _ => 0)))
      rw [show vp_cell (G.2.2.1 0) (8, .inl (fun _ => 0)) = arrV (G.2.2.1 0) 8 (fun _ => defaultValue (newarray.typeOf .int)) from rfl]
      exact e1
theorem aw_iretB {x : Int32} (hK : KOK K cc nL own Ts fr N lo) (hR : KRb K x m 1) (hn : narrow .boolean (.int x) = .int x) (hN : n ≤ 1) (d : decode cc pc = .ok (.ireturn, 1)) : AW K n pc lv [q_i x] m := by
  obtain ⟨p, l, e, R, s, mm, args, below, meth, c, G, A, Z⟩ := K
  intro H locs ls hP hS hl
  obtain ⟨hx, hb, hml, hown, hts, hGO, hlk, hRm, hA⟩ := id hK
  obtain ⟨G0, hf0, hG, hret, rfl, rfl⟩ := hR
  have hP0 : va_P (G0.1, G0.2.1) vwCl (wsOf G0 m) H := by
    rcases hG with rfl | ⟨a, -, rfl⟩
    · exact hP
    · exact va_P_gT hf0 hP
  exact W.widen hN (Nat.mul_le_mul_left 16 hN) (W.zret hx hb hret hn (fun t ht _ => ⟨some x, rfl, rfl, by rw [ht]; exact hP0, hS.F ht⟩) hS.2.2 d)
theorem trB_of {rr : Int32} (hy : plainName y.cls = true) (hw : ws = Cond.code y bytes maxL (some .boolean) :: ws') (hlen : avLen as ≤ maxL) (h : ∀ K, KOK K bytes maxL y.cls ws fr 1 lo → KRb K rr m' 1 → KFl K → AW K 0 0 (avArgs 0 as) [] m) : TrB y ws fr lo 1 as m rr m' := by
  intro l G sz hf
  refine Met.ofW (cc := bytes) (maxL := maxL) (ret := some .boolean) hy hw ?_
  intro p e s mm args below meth c s₁ B hml hv
  obtain ⟨rfl, hP, hG, rfl, hGX⟩ := hv
  have hown : s.vm.findClass y.cls = some mm.cls := findClass_of_methodNamed B.named
  have hts := atoms_spec (ws := ws) B.pre
  have h1 := h (p, l, e, ({ frames := fr, cells := 1, slots := 16 * 1, locals := lo } : Room), s, mm, _, below, meth, c, G, frX G s.heap.size, MQ below (QcX G s.heap.size (.inl (some rr)) m') _ s 1 (16 * 1) (frX G s.heap.size)) ⟨B.exec, B.bytes, hml, hown, hts, hG, B.notSynchronized, ⟨Nat.le_refl _, Nat.le_refl _, Nat.le_refl _, Nat.le_refl _⟩, fun k hk => frX_A hk⟩ ⟨G, hf, Or.inl rfl, B.returns, rfl, rfl⟩ hf
  have hl := lv_entry (as.map (toV G)) (n := maxL) (Nat.le_trans (avLen_eq G as (fun a _ => qcat_ok a)) hlen)
  rw [lg_entry_eq]
  rw [avArgs_eq] at hl
  exact h1 s.heap [] _ hP va_S.rf (by rw [hml]; exact hl)
theorem aw_astoreV (hK : KOK K cc nL own Ts fr N lo) {j : Nat} {q : Nat} (lv' : List (Nat × AV)) (hn : j < nL) (h : (j, q_v (.ref q)) :: lv.filter (fun q => !(q.1 == j) && !(q.1 + 1 == j && qcat q.2 == 2)) = lv') (d : decode cc pc = .ok (.astore j, 2)) (k : AW K n (pc + 2) lv' st m) : AW K n pc lv (q_v (.ref q) :: st) m := by
  obtain ⟨p, l, e, R, s, mm, args, below, meth, c, G, A, Z⟩ := K
  intro H locs ls hP hS hl
  subst h
  exact lv_astore hK.1 hK.2.1 d hl (by rw [hK.2.2.1]; exact hn) rfl (fun ls' hl' => k H locs ls' hP hS (lvm_get (a := q_v (.ref q)) hl'))
theorem aw_astoreV_n (hK : KOK K cc nL own Ts fr N lo) {kk : Fin 4} {q : Nat} (lv' : List (Nat × AV)) (hn : kk.val < nL) (h : (kk.val, q_v (.ref q)) :: lv.filter (fun q => !(q.1 == kk.val) && !(q.1 + 1 == kk.val && qcat q.2 == 2)) = lv') (d : decode cc pc = .ok (.astore_n kk, 1)) (k : AW K n (pc + 1) lv' st m) : AW K n pc lv (q_v (.ref q) :: st) m := by
  obtain ⟨p, l, e, R, s, mm, args, below, meth, c, G, A, Z⟩ := K
  intro H locs ls hP hS hl
  subst h
  exact lv_astore_n hK.1 hK.2.1 d rfl hl (by rw [hK.2.2.1]; exact hn) rfl (fun ls' hl' => k H locs ls' hP hS (lvm_get (a := q_v (.ref q)) hl'))
theorem aw_aloadV_n (hK : KOK K cc nL own Ts fr N lo) {kk : Fin 4} {x : Nat} (i : Nat) (hk : lv[i]? = some (kk.val, q_v (.ref x))) (d : decode cc pc = .ok (.aload_n kk, 1)) (k : AW K n (pc + 1) lv (q_v (.ref x) :: st) m) : AW K n pc lv (st) m := by
  obtain ⟨p, l, e, R, s, mm, args, below, meth, c, G, A, Z⟩ := K
  intro H locs ls hP hS hl
  exact lv_aload_n hK.1 hK.2.1 d rfl (lvm_at hl hk) (k H locs ls hP hS hl)
theorem aw_iretW (hK : KOK K cc nL own Ts fr N lo) {x : Int32} (hR : KW K (some .int) x m N hh) (hN : n ≤ N) (d : decode cc pc = .ok (.ireturn, 1)) : AW K n pc lv [q_i x] m := by
  obtain ⟨p, l, e, R, s, mm, args, below, meth, c, G, A, Z⟩ := K
  intro H locs ls hP hS hl
  obtain ⟨hx, hb, hml, hown, hts, hGO, hlk, hRm, hA⟩ := id hK
  obtain ⟨hret, rfl, rfl, -⟩ := hR
  exact W.widen hN (Nat.mul_le_mul_left 16 hN) (W.iret hx hb hret (fun t ht _ => ⟨some x, rfl, rfl, by rw [ht]; exact hP, hS.F ht⟩) hS.2.2 d)
theorem trW_of {rr : Int32} (hy : plainName y.cls = true) (hw : ws = Cond.codeWith y bytes maxL ret hh :: ws') (hlen : avLen as ≤ maxL) (h : ∀ K, KOK K bytes maxL y.cls ws fr N lo → KW K ret rr m' N hh → AW K 0 0 (avArgs 0 as) [] m) : TrW y ws fr lo N as m rr m' := by
  intro l G sz htr
  refine va_MetW (cc := bytes) (maxL := maxL) (ret := ret) (hh := hh) hy hw ?_
  intro p e s mm args below meth c s₁ B hml hv
  obtain ⟨rfl, hP, hG, rfl, hGX⟩ := hv
  have hown : s.vm.findClass y.cls = some mm.cls := findClass_of_methodNamed B.named
  have hts := atoms_spec (ws := ws) B.pre
  have htab := vx_table (x := y) B (hts (Cond.codeWith y bytes maxL ret hh) (by rw [hw]; exact List.mem_cons_self))
  have h1 := h (p, l, e, ({ frames := fr, cells := N, slots := 16 * N, locals := lo } : Room), s, mm, _, below, meth, c, G, frX G s.heap.size, MQ below (QcX G s.heap.size (.inl (some rr)) m') _ s N (16 * N) (frX G s.heap.size)) ⟨B.exec, B.bytes, hml, hown, hts, hG, B.notSynchronized, ⟨Nat.le_refl _, Nat.le_refl _, Nat.le_refl _, Nat.le_refl _⟩, fun k hk => frX_A hk⟩ ⟨B.returns, rfl, rfl, htr, hGX, htab⟩
  have hl := lv_entry (as.map (toV G)) (n := maxL) (Nat.le_trans (avLen_eq G as (fun a _ => qcat_ok a)) hlen)
  rw [lg_entry_eq]
  rw [avArgs_eq] at hl
  exact h1 s.heap [] _ hP va_S.rf (by rw [hml]; exact hl)
theorem aw_csP (hK : KOK K cc nL own Ts fr N lo) (hM : Tr y ws fr' lo' as m r m') (hG : GoodIn Ts (va_wsS own idx y ws)) (hw : ws = Cond.code y bytes maxL ret :: ws')
    (hd : y.cls ≠ "java/lang/invoke/MethodHandle" ∧ y.cls ≠ "java/lang/invoke/VarHandle" ∧ (parseMethodDescriptor y.desc).map (fun d => d.parameters.length) = some na) (hna : as.length = na) (hR : fr' + 1 ≤ fr ∧ 8 + (maxL + 11) + lo' ≤ lo) (hn : n ≤ N) (hst : (st.map qcat).sum ≤ 8)
    (d : decode cc pc = .ok (.invokestatic idx, 3)) (k : AW K n (pc + 3) lv (resV r ++ st) m') : AW K n pc lv (as.reverse ++ st) m := by
  obtain ⟨p, l, e, R, s, mm, args, below, meth, c, G, A, Z⟩ := K
  intro H locs ls hP hS hl
  obtain ⟨hx, hb, hml, hown, hts, hGO, -, hRm, hA⟩ := id hK
  have run := va_runS (As := as.map (toV G)) (rest := st.map (toV G)) (H := H) (locs := locs) (cells := n) (slots := 16 * n) (g := F0 mm pc ls ((as.reverse ++ st).map (toV G))) (e := e) (below := below) (meth := meth) ⟨hx, hb, hml, hown, hts⟩ (hM l G) (va_cwS (R := R) na hts hG hw rfl rfl hd ⟨Nat.le_trans hR.1 hRm.1, Nat.le_trans hR.2 hRm.2.1⟩)
    ⟨PcW_blind _ _ _, PcW_of hP hGO⟩ rfl (by rw [List.length_map]; exact hna) (hl.1.trans hml) (by simp) (lv_room (by rw [qsum_eq]; exact hst)) d ⟨Nat.le_trans hn hRm.2.2.1, Nat.le_trans (Nat.mul_le_mul_left 16 hn) hRm.2.2.2⟩
  refine aw_run run hS hA (fun H1 locs1 hP1 hS1 => ?_)
  have k1 := k H1 locs1 ls hP1 hS1 hl
  cases r with
  | none => exact k1
  | some x => exact k1
theorem aw_csW0 (hK : KOK K cc nL own Ts fr N lo) (hM : Tr y ws fr' lo' as m r m') (hG : GoodIn Ts (va_wsS own idx y ws)) (hw : ws = Cond.codeWith y bytes maxL ret hh :: ws')
    (hd : y.cls ≠ "java/lang/invoke/MethodHandle" ∧ y.cls ≠ "java/lang/invoke/VarHandle" ∧ (parseMethodDescriptor y.desc).map (fun d => d.parameters.length) = some na) (hna : as.length = na) (hR : fr' + 1 ≤ fr ∧ 8 + (maxL + 11) + lo' ≤ lo) (hn : n ≤ N) (hst : (st.map qcat).sum ≤ 8)
    (d : decode cc pc = .ok (.invokestatic idx, 3)) (k : AW K n (pc + 3) lv (resV r ++ st) m') : AW K n pc lv (as.reverse ++ st) m := by
  obtain ⟨p, l, e, R, s, mm, args, below, meth, c, G, A, Z⟩ := K
  intro H locs ls hP hS hl
  obtain ⟨hx, hb, hml, hown, hts, hGO, -, hRm, hA⟩ := id hK
  have run := vx_runSW (As := as.map (toV G)) (rest := st.map (toV G)) (H := H) (locs := locs) (cells := n) (slots := 16 * n) (g := F0 mm pc ls ((as.reverse ++ st).map (toV G))) (e := e) (below := below) (meth := meth) ⟨hx, hb, hml, hown, hts⟩ (hM l G) (vx_cwSW (R := R) na hts hG hw rfl rfl hd ⟨Nat.le_trans hR.1 hRm.1, Nat.le_trans hR.2 hRm.2.1⟩)
    ⟨PcW_blind _ _ _, PcW_of hP hGO⟩ rfl (by rw [List.length_map]; exact hna) (hl.1.trans hml) (by simp) (lv_room (by rw [qsum_eq]; exact hst)) d ⟨Nat.le_trans hn hRm.2.2.1, Nat.le_trans (Nat.mul_le_mul_left 16 hn) hRm.2.2.2⟩
  refine aw_run run hS hA (fun H1 locs1 hP1 hS1 => ?_)
  have k1 := k H1 locs1 ls hP1 hS1 hl
  cases r with
  | none => exact k1
  | some x => exact k1
theorem tr_ofW {hret : Option Int32} (hy : plainName y.cls = true) (hw : ws = Cond.codeWith y bytes maxL ret hh :: ws') (hlen : avLen as ≤ maxL) (h : ∀ K, KOK K bytes maxL y.cls ws fr 0 lo → KRet K ret hret m' → AW K 0 0 (avArgs 0 as) [] m) : Tr y ws fr lo as m hret m' := by
  intro l G
  refine va_MetW (cc := bytes) (maxL := maxL) (ret := ret) (hh := hh) hy hw ?_
  intro p e s mm args below meth c s₁ B hml hv
  obtain ⟨rfl, hP, hG⟩ := hv
  have hown : s.vm.findClass y.cls = some mm.cls := findClass_of_methodNamed B.named
  have hts := atoms_spec (ws := ws) B.pre
  have h1 := h (p, l, e, ({ frames := fr, cells := 0, slots := 0, locals := lo } : Room), s, mm, _, below, meth, c, G, frC G, MQ below (QcP G hret m') _ s 0 0 (frC G)) ⟨B.exec, B.bytes, hml, hown, hts, hG, B.notSynchronized, ⟨Nat.le_refl _, Nat.le_refl _, Nat.zero_le _, Nat.zero_le _⟩, fun k hk => ⟨k, hk, rfl⟩⟩ ⟨B.returns, rfl, rfl⟩
  have hl := lv_entry (as.map (toV G)) (n := maxL) (Nat.le_trans (avLen_eq G as (fun a _ => qcat_ok a)) hlen)
  rw [lg_entry_eq]
  rw [avArgs_eq] at hl
  exact h1 s.heap [] _ hP va_S.rf (by rw [hml]; exact hl)
theorem xrun_csP {p : Program} {l : Launch} {e : Env} {R : Room} {s : State} {mm : MethodId} {args : Array Value} {below : List Frame} {meth : Method} {c : Code} {G : GT} {A : Nat → Prop} {Z : State → Prop} {H : Heap} {locs : List Loc} {ls : Array Slot} {res : Option Int32 ⊕ Nat} (hK : KOK (p, l, e, R, s, mm, args, below, meth, c, G, A, Z) cc nL own Ts fr N lo) (htr : l.stackTraces = false) (hGX : GX (frX G s.heap.size) s s.heap) (hM : TrX y ws fr' lo' N' as m res m1) (hG : GoodIn Ts (va_wsS own idx y ws)) (hw : ws = Cond.code y bytes maxL ret :: ws')
    (hd : y.cls ≠ "java/lang/invoke/MethodHandle" ∧ y.cls ≠ "java/lang/invoke/VarHandle" ∧ (parseMethodDescriptor y.desc).map (fun d => d.parameters.length) = some na) (hna : as.length = na) (hR : fr' + 1 ≤ fr ∧ 8 + (maxL + 11) + lo' ≤ lo) (hn : n + N' ≤ N) (hst : (st.map qcat).sum ≤ 8)
    (d : decode cc pc = .ok (.invokestatic idx, 3)) (hP : va_P (G.1, G.2.1) vwCl (wsOf G m) H) (hS : va_S (frX G s.heap.size) s.heap H locs) (hl : ls.size = c.maxLocals) :
    vx_Run p l e R s mm args below meth c H locs n (16 * n) N' (16 * N') (F0 mm pc ls ((as.reverse ++ st).map (toV G))) (st.map (toV G)) (QcX G H.size res m1 ((as.map (toV G))).toArray) (XcX G H.size res m1) (frX G H.size) := by
  obtain ⟨hx, hb, hml, hown, hts, hGO, -, hRm, hA⟩ := id hK
  exact vx_runS (As := as.map (toV G)) (rest := st.map (toV G)) (H := H) (locs := locs) (cells := n) (slots := 16 * n) (g := F0 mm pc ls ((as.reverse ++ st).map (toV G))) (e := e) (below := below) (meth := meth) ⟨hx, hb, hml, hown, hts⟩ (hM l G H.size htr) (va_cwS (R := R) na hts hG hw rfl rfl hd ⟨Nat.le_trans hR.1 hRm.1, Nat.le_trans hR.2 hRm.2.1⟩)
    ⟨PcX_blind _ _ _ _, PcX_of hP hGO hGX hS⟩ rfl (by rw [List.length_map]; exact hna) (hl.trans hml) (by simp) (lv_room (by rw [qsum_eq]; exact hst)) d ⟨Nat.le_trans hn hRm.2.2.1, Nat.le_trans (by rw [← Nat.mul_add]; exact Nat.mul_le_mul_left 16 hn) hRm.2.2.2⟩
theorem aw_csPXr (hK : KOK K cc nL own Ts fr N lo) (hR0 : KB K) (hM : TrX y ws fr' lo' N' as m (.inl r) m1) (hG : GoodIn Ts (va_wsS own idx y ws)) (hw : ws = Cond.code y bytes maxL ret :: ws')
    (hd : y.cls ≠ "java/lang/invoke/MethodHandle" ∧ y.cls ≠ "java/lang/invoke/VarHandle" ∧ (parseMethodDescriptor y.desc).map (fun d => d.parameters.length) = some na) (hna : as.length = na) (hR : fr' + 1 ≤ fr ∧ 8 + (maxL + 11) + lo' ≤ lo) (hn : n + N' ≤ N) (hst : (st.map qcat).sum ≤ 8)
    (d : decode cc pc = .ok (.invokestatic idx, 3)) (k : AW K (n + N') (pc + 3) lv (resV r ++ st) m1) : AW K n pc lv (as.reverse ++ st) m := by
  obtain ⟨p, l, e, R, s, mm, args, below, meth, c, G, A, Z⟩ := K
  intro H locs ls hP hS hl
  obtain ⟨rfl, htr, hGX⟩ := id hR0
  refine aw_runXr (xrun_csP hK htr hGX hM hG hw hd hna hR hn hst d hP hS hl.1) hS (fun H1 locs1 hP1 hS1 => ?_)
  have k1 := k H1 locs1 ls hP1 hS1 hl
  cases r with
  | none => exact k1
  | some x => exact k1
theorem aw_csWx {x : Nat} {rr : Int32} {m0 : Mem} {ret0 : Option FieldType} (hK : KOK K cc nL own Ts fr N lo) (hR0 : KW K ret0 rr m0 N hh) (hM : TrX y ws fr' lo' N' as m (.inr x) m1) (hG : GoodIn Ts (va_wsS own idx y ws)) (hw : ws = Cond.code y bytes maxL ret :: ws')
    (hd : y.cls ≠ "java/lang/invoke/MethodHandle" ∧ y.cls ≠ "java/lang/invoke/VarHandle" ∧ (parseMethodDescriptor y.desc).map (fun d => d.parameters.length) = some na) (hna : as.length = na) (hR : fr' + 1 ≤ fr ∧ 8 + (maxL + 11) + lo' ≤ lo) (hn : n + N' ≤ N) (hst : (st.map qcat).sum ≤ 8)
    (d : decode cc pc = .ok (.invokestatic idx, 3)) (hx3 : x < 3)
    (pre : List ExceptionTableEntry) (xe : ExceptionTableEntry) (suf : List ExceptionTableEntry) (hsplit : tableOf hh = pre ++ xe :: suf)
    (hpass : ∀ z ∈ pre, covers z pc = false ∨ (z.catchType ≠ 0 ∧ ∃ y, y < 3 ∧ x ≠ y ∧ Cond.classLink own z.catchType (exN y) ∈ Ts)) (hcov : covers xe pc = true) (h0 : xe.catchType ≠ 0) (hlink : Cond.classLink own xe.catchType (exN x) ∈ Ts)
    (k : ∀ q : Nat, AW K (n + N') xe.handlerPc lv [q_v (.ref q)] m1) : AW K n pc lv (as.reverse ++ st) m := by
  obtain ⟨p, l, e, R, s, mm, args, below, meth, c, G, A, Z⟩ := K
  intro H locs ls hP hS hl
  obtain ⟨-, rfl, rfl, htr, hGX, htab⟩ := id hR0
  obtain ⟨hx, hb, hml, hown, hts, hGO, hlk, hRm, hA⟩ := id hK
  refine aw_runXx (xrun_csP hK htr hGX hM hG hw hd hna hR hn hst d hP hS hl.1) hS (fun H1 locs1 q ce hP1 hS1 hce hcv hcls => ?_)
  refine vx_catch hown pre xe suf (by rw [htab]; exact hsplit) (fun z hz => ?_) hcov h0 (hts _ hlink) (va_Nw.use rfl (hGX.2.2.2.1 x hx3)) hce hcv hcls (k q H1 locs1 ls hP1 hS1 hl)
  rcases hpass z hz with h | ⟨h1, y, hy, hxy, h2⟩
  · exact Or.inl h
  · exact Or.inr ⟨h1, exN y, hts _ h2, hGX.2.2.2.2.1 x hx3 y hy hxy⟩
/-- the law calls one of its methods -/
theorem aw_csW {rr : Int32} (hK : KOK K cc nL own Ts fr N lo) (hB : KB K) (hM : TrW y ws fr' lo' N' as m rr m1) (hG : GoodIn Ts (va_wsS own idx y ws)) (hw : ws = Cond.codeWith y bytes maxL ret hh :: ws')
    (hd : y.cls ≠ "java/lang/invoke/MethodHandle" ∧ y.cls ≠ "java/lang/invoke/VarHandle" ∧ (parseMethodDescriptor y.desc).map (fun d => d.parameters.length) = some na) (hna : as.length = na) (hR : fr' + 1 ≤ fr ∧ 8 + (maxL + 11) + lo' ≤ lo) (hn : n + N' ≤ N) (hst : (st.map qcat).sum ≤ 8)
    (d : decode cc pc = .ok (.invokestatic idx, 3)) (k : AW K (n + N') (pc + 3) lv (q_i rr :: st) m1) : AW K n pc lv (as.reverse ++ st) m := by
  obtain ⟨p, l, e, R, s, mm, args, below, meth, c, G, A, Z⟩ := K
  intro H locs ls hP hS hl
  obtain ⟨rfl, htr, hGX⟩ := id hB
  obtain ⟨hx, hb, hml, hown, hts, hGO, -, hRm, hA⟩ := id hK
  have run := vx_runSW (As := as.map (toV G)) (rest := st.map (toV G)) (H := H) (locs := locs) (cells := n) (slots := 16 * n) (g := F0 mm pc ls ((as.reverse ++ st).map (toV G))) (e := e) (below := below) (meth := meth) ⟨hx, hb, hml, hown, hts⟩ (hM l G H.size htr) (vx_cwSW (R := R) na hts hG hw rfl rfl hd ⟨Nat.le_trans hR.1 hRm.1, Nat.le_trans hR.2 hRm.2.1⟩)
    ⟨PcX_blind _ _ _ _, PcX_of hP hGO hGX hS⟩ rfl (by rw [List.length_map]; exact hna) (hl.1.trans hml) (by simp) (lv_room (by rw [qsum_eq]; exact hst)) d ⟨Nat.le_trans hn hRm.2.2.1, Nat.le_trans (by rw [← Nat.mul_add]; exact Nat.mul_le_mul_left 16 hn) hRm.2.2.2⟩
  have hfA : ∀ q, frX G H.size q → frX G s.heap.size q := fun q hq => hq.elim Or.inl (fun z => Or.inr (Nat.le_trans hS.1 z))
  intro T hT X
  obtain ⟨v, st₀, t, T', L, h0, X', hL, e1, e2, ⟨r', hr', hv, hP1, hF⟩, stp⟩ := run T hT X
  cases hr'
  have hv : v = some (Value.int rr) := Outcome.returned.inj hv
  subst hv
  obtain ⟨-, -, k3⟩ := vx_keep h0 e1 hS (fun q _ h => hfA q h) hfA hL hF
  have X' : Stand p l e R s mm args below meth c T' (locs ++ L) (n + N') (16 * (n + N')) := by rw [Nat.mul_add]; exact X'
  obtain ⟨t2, a1, b1⟩ := k T'.heap (locs ++ L) ls (by rw [e1]; exact hP1) k3 hl T' rfl X'
  exact ⟨t2, stp t2 a1, b1⟩
/-- the law calls isBack -/
theorem aw_csB {rr : Int32} (hK : KOK K cc nL own Ts fr N lo) (hB : KB K) (hF : KFl K) (hM : TrB y ws fr' lo' N' as m rr m1) (hG : GoodIn Ts (va_wsS own idx y ws)) (hw : ws = Cond.code y bytes maxL ret :: ws')
    (hd : y.cls ≠ "java/lang/invoke/MethodHandle" ∧ y.cls ≠ "java/lang/invoke/VarHandle" ∧ (parseMethodDescriptor y.desc).map (fun d => d.parameters.length) = some na) (hna : as.length = na) (hR : fr' + 1 ≤ fr ∧ 8 + (maxL + 11) + lo' ≤ lo) (hn : n + N' ≤ N) (hst : (st.map qcat).sum ≤ 8)
    (d : decode cc pc = .ok (.invokestatic idx, 3)) (k : AW K (n + N') (pc + 3) lv (q_i rr :: st) m1) : AW K n pc lv (as.reverse ++ st) m := by
  obtain ⟨p, l, e, R, s, mm, args, below, meth, c, G, A, Z⟩ := K
  intro H locs ls hP hS hl
  obtain ⟨rfl, htr, hGX⟩ := id hB
  obtain ⟨hx, hb, hml, hown, hts, hGO, -, hRm, hA⟩ := id hK
  have run := va_runS (As := as.map (toV G)) (rest := st.map (toV G)) (H := H) (locs := locs) (cells := n) (slots := 16 * n) (g := F0 mm pc ls ((as.reverse ++ st).map (toV G))) (e := e) (below := below) (meth := meth) ⟨hx, hb, hml, hown, hts⟩ (hM l G H.size hF) (va_cwS (R := R) na hts hG hw rfl rfl hd ⟨Nat.le_trans hR.1 hRm.1, Nat.le_trans hR.2 hRm.2.1⟩)
    ⟨PcX_blind _ _ _ _, PcX_of hP hGO hGX hS⟩ rfl (by rw [List.length_map]; exact hna) (hl.1.trans hml) (by simp) (lv_room (by rw [qsum_eq]; exact hst)) d ⟨Nat.le_trans hn hRm.2.2.1, Nat.le_trans (by rw [← Nat.mul_add]; exact Nat.mul_le_mul_left 16 hn) hRm.2.2.2⟩
  have hfA : ∀ q, frX G H.size q → frX G s.heap.size q := fun q hq => hq.elim Or.inl (fun z => Or.inr (Nat.le_trans hS.1 z))
  intro T hT X
  obtain ⟨v, st₀, t, T', L, h0, X', hL, e1, e2, ⟨r', hr', hv, hP1, hF⟩, stp⟩ := run T hT X
  cases hr'
  have hv : v = some (Value.int rr) := Outcome.returned.inj hv
  subst hv
  obtain ⟨-, -, k3⟩ := vx_keep h0 e1 hS (fun q _ h => hfA q h) hfA hL hF
  have X' : Stand p l e R s mm args below meth c T' (locs ++ L) (n + N') (16 * (n + N')) := by rw [Nat.mul_add]; exact X'
  obtain ⟨t2, a1, b1⟩ := k T'.heap (locs ++ L) ls (by rw [e1]; exact hP1) k3 hl T' rfl X'
  exact ⟨t2, stp t2 a1, b1⟩
/-- the law's script -/
def KL : KT → Nat → Nat → (Nat → Int32) → Prop
  | (_, _, _, _, s, _, _, _, _, _, _, A, _), b, L, xs => va_X b L xs s s.heap ∧ b < s.heap.size ∧ ¬ A b
theorem aw_sld {b L : Nat} {xs : Nat → Int32} {i : Int32} (hK : KOK K cc nL own Ts fr N lo) (hL : KL K b L xs) (hi : inb i L = true) (d : decode cc pc = .ok (.iaload, 1)) (k : AW K n (pc + 1) lv (q_i (xs (ix i)) :: st) m) : AW K n pc lv (q_i i :: q_v (.ref b) :: st) m := by
  obtain ⟨p, l, e, R, s, mm, args, below, meth, c, G, A, Z⟩ := K
  intro H locs ls hP hS hl
  exact va_sld hK.1 hK.2.1 hL.1 hL.2.1 hL.2.2 hS (inb_in hi) d (k H locs ls hP hS hl)
theorem aw_slen {b L : Nat} {xs : Nat → Int32} (hK : KOK K cc nL own Ts fr N lo) (hL : KL K b L xs) (d : decode cc pc = .ok (.arraylength, 1)) (k : AW K n (pc + 1) lv (q_i (nI L) :: st) m) : AW K n pc lv (q_v (.ref b) :: st) m := by
  obtain ⟨p, l, e, R, s, mm, args, below, meth, c, G, A, Z⟩ := K
  intro H locs ls hP hS hl
  exact va_slen hK.1 hK.2.1 hL.1 hL.2.1 hL.2.2 hS d (k H locs ls hP hS hl)
end WROWS
/-- the law's end -/
def KLr : KT → Nat → Prop
  | (_, _, _, R, s, _, args, below, meth, c, G, A, Z), N => ∃ b : Nat, R = room_1 ∧ args = #[Value.ref b] ∧ A = frX G s.heap.size ∧ Z = lw_Z below #[Value.ref b] s ∧ c.code = code ∧ meth.sig.returnType = ret ∧ N ≤ 400000 ∧ ∀ q, A q → s.heap.size ≤ q
theorem aw_iretL {K : KT} {nL : Nat} {own : String} {Ts : List Cond} {fr N lo n pc : Nat} {lv : List (Nat × AV)} {m : Mem} (hK : KOK K cL_law nL own Ts fr N lo) (hR : KLr K N) (hn : n ≤ N) (d : decode cL_law pc = .ok (.ireturn, 1)) : AW K n pc lv [q_i 1] m := by
  obtain ⟨p, l, e, R, s, mm, args, below, meth, c, G, A, Z⟩ := K
  intro H locs ls hP hS hl
  obtain ⟨hx, hb, hml, hown, hts, hGO, hlk, hRm, hA⟩ := id hK
  obtain ⟨b, rfl, rfl, -, rfl, hcode, hret, hN, hAs⟩ := hR
  exact va_forget (fun q hq => hAs _ (hS.2.2 q hq)) (W.widen (by omega) (by omega) (lw_ret hx hcode hret hlk d))
