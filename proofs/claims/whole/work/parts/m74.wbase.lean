/-! the law and its methods: longs, the script, handlers -/
def TrW (y : MethodName) (ws : List Cond) (fr lo N : Nat) (as : List AV) (m : Mem) (r : Int32) (m' : Mem) : Prop :=
  ∀ (l : Launch) (G : GT) (sz : Nat), l.stackTraces = false → Met l y ws { frames := fr, cells := N, slots := 16 * N, locals := lo } (PcX G sz as m) (QcX G sz (.inl (some r)) m') N (16 * N) (frX G sz)
def KW : KT → Option FieldType → Int32 → Mem → Nat → List (Nat × Nat × Nat × Nat) → Prop
  | (_, l, _, _, s, _, args, below, meth, c, G, A, Z), ret, r, m', N, hh =>
    meth.sig.returnType = ret ∧ A = frX G s.heap.size ∧ Z = MQ below (QcX G s.heap.size (.inl (some r)) m') args s N (16 * N) (frX G s.heap.size) ∧ l.stackTraces = false ∧ GX (frX G s.heap.size) s s.heap ∧ c.exceptionTable.toList = tableOf hh
theorem kwb {K : KT} {ret : Option FieldType} {r : Int32} {m' : Mem} {N : Nat} {hh : List (Nat × Nat × Nat × Nat)} (h : KW K ret r m' N hh) : KB K := by
  obtain ⟨p, l, e, R, s, mm, args, below, meth, c, G, A, Z⟩ := K
  exact ⟨h.2.1, h.2.2.2.1, h.2.2.2.2.1⟩
def calw {α β : Type} (o : Option ((α ⊕ Nat) × Mem)) (f : α → Mem → Option β) (g : Nat → Mem → Option β) : Option β := match o with
  | some (.inl r, m) => f r m
  | some (.inr x, m) => g x m
  | none => none
theorem calw_some {α β : Type} {o : Option ((α ⊕ Nat) × Mem)} {f : α → Mem → Option β} {g : Nat → Mem → Option β} {r : β} (h : calw o f g = some r) : (∃ x m, o = some (.inl x, m) ∧ f x m = some r) ∨ (∃ x m, o = some (.inr x, m) ∧ g x m = some r) := by
  rcases o with _ | ⟨x | x, m⟩
  · cases h
  · exact Or.inl ⟨x, m, rfl, h⟩
  · exact Or.inr ⟨x, m, rfl, h⟩
section WROWS
variable {K : KT} {cc : ByteArray} {nL : Nat} {own : String} {Ts : List Cond} {fr N lo n pc : Nat} {lv : List (Nat × AV)} {st : List AV} {m : Mem}
  {y : MethodName} {ws ws' : List Cond} {bytes : ByteArray} {maxL idx fr' lo' kc na N' : Nat} {C : String} {T : u_T} {as : List AV} {r : Option Int32} {m1 m' : Mem} {ret : Option FieldType} {hh : List (Nat × Nat × Nat × Nat)}
theorem aw_i2l (hK : KOK K cc nL own Ts fr N lo) {x : Int32} (d : decode cc pc = .ok (.i2l, 1)) (k : AW K n (pc + 1) lv (q_v (.long x.toInt64) :: st) m) : AW K n pc lv (q_i x :: st) m := by
  obtain ⟨p, l, e, R, s, mm, args, below, meth, c, G, A, Z⟩ := K
  intro H locs ls hP hS hl
  exact lv_i2l hK.1 hK.2.1 d rfl (k H locs ls hP hS hl)
theorem aw_lconst (hK : KOK K cc nL own Ts fr N lo) {z : Fin 2} (v : Int32) (hv : Int64.ofNat (z : Nat) = v.toInt64) (d : decode cc pc = .ok (.lconst z, 1)) (k : AW K n (pc + 1) lv (q_v (.long v.toInt64) :: st) m) : AW K n pc lv st m := by
  obtain ⟨p, l, e, R, s, mm, args, below, meth, c, G, A, Z⟩ := K
  intro H locs ls hP hS hl
  exact lv_lconst hK.1 hK.2.1 d hv (k H locs ls hP hS hl)
theorem aw_lcmp (hK : KOK K cc nL own Ts fr N lo) {x y : Int64} (d : decode cc pc = .ok (.lcmp, 1)) (k : AW K n (pc + 1) lv (q_i (lg_cmp x y) :: st) m) : AW K n pc lv (q_v (.long y) :: q_v (.long x) :: st) m := by
  obtain ⟨p, l, e, R, s, mm, args, below, meth, c, G, A, Z⟩ := K
  intro H locs ls hP hS hl
  exact W.lcmp hK.1 hK.2.1 d (k H locs ls hP hS hl)
theorem aw_lald (hK : KOK K cc nL own Ts fr N lo) {kc : Nat} {i : Int32} (hk : knd kc = 13) (hi : inb i (alen kc) = true) (d : decode cc pc = .ok (.laload, 1)) (k : AW K n (pc + 1) lv (q_v (.long (m kc (ix i)).toInt64) :: st) m) : AW K n pc lv (q_i i :: q_r kc :: st) m := by
  obtain ⟨p, l, e, R, s, mm, args, below, meth, c, G, A, Z⟩ := K
  intro H locs ls hP hS hl
  obtain ⟨hx, hb, -, hown, hts, hG, -, -, -⟩ := id hK
  obtain ⟨z, hz⟩ := ws_at (k := kc) (by omega)
  exact va_lald (f := fun j => (m kc j).toInt64) hx hb hG.1 hP z 3 (by rw [ws_get hz, cell_l G hk]) rfl (inb_in hi) d (k H locs ls hP hS hl)
theorem updL_long (f : Nat → Int32) (k : Nat) (x : Int32) : vp_updL (fun j => (f j).toInt64) k x.toInt64 = fun j => (upd f k x j).toInt64 := by
  funext j
  unfold vp_updL upd
  split <;> rfl
theorem aw_last (hK : KOK K cc nL own Ts fr N lo) {kc : Nat} {i x : Int32} (hk : knd kc = 13) (hi : inb i (alen kc) = true) (d : decode cc pc = .ok (.lastore, 1)) (k : AW K n (pc + 1) lv st (mup m kc (ix i) x)) : AW K n pc lv (q_v (.long x.toInt64) :: q_i i :: q_r kc :: st) m := by
  obtain ⟨p, l, e, R, s, mm, args, below, meth, c, G, A, Z⟩ := K
  intro H locs ls hP hS hl
  obtain ⟨hx, hb, -, hown, hts, hG, -, -, hA⟩ := id hK
  obtain ⟨z, hz⟩ := ws_at (k := kc) (by omega)
  refine va_last hx hb hG.1 hP (ws_D hG.2.2.2 hA m) hS z 3 (by rw [ws_get hz, cell_l G hk]) rfl (inb_in hi) d (fun H1 locs1 hP1 _ hS1 => k H1 locs1 ls ?_ hS1 hl)
  rw [updL_long, ← mup_k, ← cell_l G hk, ws_set hz G (fun k' h => mup_o m kc (ix i) x h)] at hP1
  exact hP1
theorem aw_astoreV (hK : KOK K cc nL own Ts fr N lo) {j : Nat} {q : Nat} (lv' : List (Nat × AV)) (hn : j < nL) (h : (j, q_v (.ref q)) :: lv.filter (fun q => !(q.1 == j) && !(q.1 + 1 == j && qcat q.2 == 2)) = lv') (d : decode cc pc = .ok (.astore j, 2)) (k : AW K n (pc + 2) lv' st m) : AW K n pc lv (q_v (.ref q) :: st) m := by
  obtain ⟨p, l, e, R, s, mm, args, below, meth, c, G, A, Z⟩ := K
  intro H locs ls hP hS hl
  subst h
  exact lv_astore hK.1 hK.2.1 d hl (by rw [hK.2.2.1]; exact hn) rfl (fun ls' hl' => k H locs ls' hP hS (lvm_get (a := q_v (.ref q)) hl'))
theorem aw_astoreV_n (hK : KOK K cc nL own Ts fr N lo) {kk : Fin 4} {q : Nat} (lv' : List (Nat × AV)) (hn : kk.val < nL) (h : (kk.val, q_v (.ref q)) :: lv.filter (fun q => !(q.1 == kk.val) && !(q.1 + 1 == kk.val && qcat q.2 == 2)) = lv') (d : decode cc pc = .ok (.astore_n kk, 1)) (k : AW K n (pc + 1) lv' st m) : AW K n pc lv (q_v (.ref q) :: st) m := by
  obtain ⟨p, l, e, R, s, mm, args, below, meth, c, G, A, Z⟩ := K
  intro H locs ls hP hS hl
  subst h
  exact lv_astore_n hK.1 hK.2.1 d rfl hl (by rw [hK.2.2.1]; exact hn) rfl (fun ls' hl' => k H locs ls' hP hS (lvm_get (a := q_v (.ref q)) hl'))
theorem aw_aloadV_n (hK : KOK K cc nL own Ts fr N lo) {kk : Fin 4} {x : Nat} (i : Nat) (hk : lv[i]? = some (kk.val, q_v (.ref x))) (d : decode cc pc = .ok (.aload_n kk, 1)) (k : AW K n (pc + 1) lv (q_v (.ref x) :: st) m) : AW K n pc lv (st) m := by
  obtain ⟨p, l, e, R, s, mm, args, below, meth, c, G, A, Z⟩ := K
  intro H locs ls hP hS hl
  exact lv_aload_n hK.1 hK.2.1 d rfl (lvm_at hl hk) (k H locs ls hP hS hl)
theorem aw_iretW (hK : KOK K cc nL own Ts fr N lo) {x : Int32} (hR : KW K (some .int) x m N hh) (hN : n ≤ N) (d : decode cc pc = .ok (.ireturn, 1)) : AW K n pc lv [q_i x] m := by
  obtain ⟨p, l, e, R, s, mm, args, below, meth, c, G, A, Z⟩ := K
  intro H locs ls hP hS hl
  obtain ⟨hx, hb, hml, hown, hts, hGO, hlk, hRm, hA⟩ := id hK
  obtain ⟨hret, rfl, rfl, -⟩ := hR
  exact W.widen hN (Nat.mul_le_mul_left 16 hN) (W.iret hx hb hret (fun t ht _ => ⟨some x, rfl, rfl, by rw [ht]; exact hP, hS.F ht⟩) hS.2.2 d)
theorem aw_cvWx {x : Nat} {rr : Int32} {m0 : Mem} {ret0 : Option FieldType} (hK : KOK K cc nL own Ts fr N lo) (hR0 : KW K ret0 rr m0 N hh) (ci : Nat) {Nf : Nat} (hM : TrX y ws fr' lo' N' (q_r kc :: as) m (.inr x) m1) (hG : GoodIn Ts (wsV own idx C y ws)) (hw : ws = Cond.code y bytes maxL ret :: ws') (hcl : vwCl[ci]? = some (C, T, Nf)) (hk : knd kc = ci) (h9 : ci < 10)
    (hd : y.cls = C ∧ y.cls ≠ "java/lang/invoke/MethodHandle" ∧ y.cls ≠ "java/lang/invoke/VarHandle" ∧ (parseMethodDescriptor y.desc).map (fun d => d.parameters.length) = some na) (hna : as.length = na) (hR : fr' + 1 ≤ fr ∧ 8 + (maxL + 11) + lo' ≤ lo) (hn : n + N' ≤ N) (hst : (st.map qcat).sum ≤ 8)
    (d : decode cc pc = .ok (.invokevirtual idx, 3)) (hx3 : x < 3)
    (pre : List ExceptionTableEntry) (xe : ExceptionTableEntry) (suf : List ExceptionTableEntry) (hsplit : tableOf hh = pre ++ xe :: suf)
    (hpass : ∀ z ∈ pre, covers z pc = false ∨ (z.catchType ≠ 0 ∧ ∃ y, y < 3 ∧ x ≠ y ∧ Cond.classLink own z.catchType (exN y) ∈ Ts)) (hcov : covers xe pc = true) (h0 : xe.catchType ≠ 0) (hlink : Cond.classLink own xe.catchType (exN x) ∈ Ts)
    (k : ∀ q : Nat, AW K (n + N') xe.handlerPc lv [q_v (.ref q)] m1) : AW K n pc lv (as.reverse ++ q_r kc :: st) m := by
  obtain ⟨p, l, e, R, s, mm, args, below, meth, c, G, A, Z⟩ := K
  intro H locs ls hP hS hl
  obtain ⟨-, rfl, rfl, htr, hGX, htab⟩ := id hR0
  obtain ⟨hx, hb, hml, hown, hts, hGO, hlk, hRm, hA⟩ := id hK
  refine aw_runXx (xrun_cv hK htr hGX ci hM hG hw hcl hk h9 hd hna hR hn hst d hP hS hl.1) hS (fun H1 locs1 q ce hP1 hS1 hce hcv hcls => ?_)
  refine vx_catch hown pre xe suf (by rw [htab]; exact hsplit) (fun z hz => ?_) hcov h0 (hts _ hlink) (va_Nw.use rfl (hGX.2.2.2.1 x hx3)) hce hcv hcls (k q H1 locs1 ls hP1 hS1 hl)
  rcases hpass z hz with h | ⟨h1, y, hy, hxy, h2⟩
  · exact Or.inl h
  · exact Or.inr ⟨h1, exN y, hts _ h2, hGX.2.2.2.2.1 x hx3 y hy hxy⟩
theorem trW_of {rr : Int32} (hy : plainName y.cls = true) (hw : ws = Cond.codeWith y bytes maxL ret hh :: ws') (hlen : avLen as ≤ maxL) (h : ∀ K, KOK K bytes maxL y.cls ws fr N lo → KW K ret rr m' N hh → AW K 0 0 (avArgs 0 as) [] m) : TrW y ws fr lo N as m rr m' := by
  intro l G sz htr
  refine va_MetW (cc := bytes) (maxL := maxL) (ret := ret) (hh := hh) hy hw ?_
  intro p e s mm args below meth c s₁ B hml hv
  obtain ⟨rfl, hP, hG, rfl, hGX⟩ := hv
  have hown : s.vm.findClass y.cls = some mm.cls := findClass_of_methodNamed B.named
  have hts := atoms_spec (ws := ws) B.pre
  have htab := vx_table (x := y) B (hts (Cond.codeWith y bytes maxL ret hh) (by rw [hw]; exact List.mem_cons_self))
  have h1 := h (p, l, e, ({ frames := fr, cells := N, slots := 16 * N, locals := lo } : Room), s, mm, _, below, meth, c, G, frX G s.heap.size, MQ below (QcX G s.heap.size (.inl (some rr)) m') _ s N (16 * N) (frX G s.heap.size)) ⟨B.exec, B.bytes, hml, hown, hts, hG, B.notSynchronized, ⟨Nat.le_refl _, Nat.le_refl _, Nat.le_refl _, Nat.le_refl _⟩, fun k hk => frX_A hk⟩ ⟨B.returns, rfl, rfl, htr, hGX, htab⟩
  have hl := lv_entry (as.map (toV G)) (n := maxL) (Nat.le_trans (avLen_eq G as (fun a _ => qcat_ok a)) hlen)
  rw [lg_entry_eq]
  rw [avArgs_eq] at hl
  exact h1 s.heap [] _ hP va_S.rf (by rw [hml]; exact hl)
/-- the law calls one of its methods -/
theorem aw_csW {rr : Int32} (hK : KOK K cc nL own Ts fr N lo) (hB : KB K) (hM : TrW y ws fr' lo' N' as m rr m1) (hG : GoodIn Ts (va_wsS own idx y ws)) (hw : ws = Cond.codeWith y bytes maxL ret hh :: ws')
    (hd : y.cls ≠ "java/lang/invoke/MethodHandle" ∧ y.cls ≠ "java/lang/invoke/VarHandle" ∧ (parseMethodDescriptor y.desc).map (fun d => d.parameters.length) = some na) (hna : as.length = na) (hR : fr' + 1 ≤ fr ∧ 8 + (maxL + 11) + lo' ≤ lo) (hn : n + N' ≤ N) (hst : (st.map qcat).sum ≤ 8)
    (d : decode cc pc = .ok (.invokestatic idx, 3)) (k : AW K (n + N') (pc + 3) lv (q_i rr :: st) m1) : AW K n pc lv (as.reverse ++ st) m := by
  obtain ⟨p, l, e, R, s, mm, args, below, meth, c, G, A, Z⟩ := K
  intro H locs ls hP hS hl
  obtain ⟨rfl, htr, hGX⟩ := id hB
  obtain ⟨hx, hb, hml, hown, hts, hGO, -, hRm, hA⟩ := id hK
  have run := vx_runSW (As := as.map (toV G)) (rest := st.map (toV G)) (H := H) (locs := locs) (cells := n) (slots := 16 * n) (g := F0 mm pc ls ((as.reverse ++ st).map (toV G))) (e := e) (below := below) (meth := meth) ⟨hx, hb, hml, hown, hts⟩ (hM l G H.size htr) (vx_cwSW (R := R) na hts hG hw rfl rfl hd ⟨Nat.le_trans hR.1 hRm.1, Nat.le_trans hR.2 hRm.2.1⟩)
    ⟨PcX_blind _ _ _ _, PcX_of hP hGO hGX hS⟩ rfl (by rw [List.length_map]; exact hna) (hl.1.trans hml) (by simp) (lv_room (by rw [qsum_eq]; exact hst)) d ⟨Nat.le_trans hn hRm.2.2.1, Nat.le_trans (by rw [← Nat.mul_add]; exact Nat.mul_le_mul_left 16 hn) hRm.2.2.2⟩
  have hfA : ∀ q, frX G H.size q → frX G s.heap.size q := fun q hq => hq.elim Or.inl (fun z => Or.inr (Nat.le_trans hS.1 z))
  intro T hT X
  obtain ⟨v, st₀, t, T', L, h0, X', hL, e1, e2, ⟨r', hr', hv, hP1, hF⟩, stp⟩ := run T hT X
  cases hr'
  have hv : v = some (Value.int rr) := Outcome.returned.inj hv
  subst hv
  obtain ⟨-, -, k3⟩ := vx_keep h0 e1 hS (fun q _ h => hfA q h) hfA hL hF
  have X' : Stand p l e R s mm args below meth c T' (locs ++ L) (n + N') (16 * (n + N')) := by rw [Nat.mul_add]; exact X'
  obtain ⟨t2, a1, b1⟩ := k T'.heap (locs ++ L) ls (by rw [e1]; exact hP1) k3 hl T' rfl X'
  exact ⟨t2, stp t2 a1, b1⟩
/-- the law's script -/
def KL : KT → Nat → Nat → (Nat → Int32) → Prop
  | (_, _, _, _, s, _, _, _, _, _, _, A, _), b, L, xs => va_X b L xs s s.heap ∧ b < s.heap.size ∧ ¬ A b
theorem aw_sld {b L : Nat} {xs : Nat → Int32} {i : Int32} (hK : KOK K cc nL own Ts fr N lo) (hL : KL K b L xs) (hi : inb i L = true) (d : decode cc pc = .ok (.iaload, 1)) (k : AW K n (pc + 1) lv (q_i (xs (ix i)) :: st) m) : AW K n pc lv (q_i i :: q_v (.ref b) :: st) m := by
  obtain ⟨p, l, e, R, s, mm, args, below, meth, c, G, A, Z⟩ := K
  intro H locs ls hP hS hl
  exact va_sld hK.1 hK.2.1 hL.1 hL.2.1 hL.2.2 hS (inb_in hi) d (k H locs ls hP hS hl)
theorem aw_slen {b L : Nat} {xs : Nat → Int32} (hK : KOK K cc nL own Ts fr N lo) (hL : KL K b L xs) (d : decode cc pc = .ok (.arraylength, 1)) (k : AW K n (pc + 1) lv (q_i (nI L) :: st) m) : AW K n pc lv (q_v (.ref b) :: st) m := by
  obtain ⟨p, l, e, R, s, mm, args, below, meth, c, G, A, Z⟩ := K
  intro H locs ls hP hS hl
  exact va_slen hK.1 hK.2.1 hL.1 hL.2.1 hL.2.2 hS d (k H locs ls hP hS hl)
end WROWS
/-- the law's end -/
def KLr : KT → Nat → Prop
  | (_, _, _, R, s, _, args, below, meth, c, G, A, Z), N => ∃ b : Nat, R = room_1 ∧ args = #[Value.ref b] ∧ A = frX G s.heap.size ∧ Z = lw_Z below #[Value.ref b] s ∧ c.code = code ∧ meth.sig.returnType = ret ∧ N ≤ 400000 ∧ ∀ q, A q → s.heap.size ≤ q
theorem aw_iretL {K : KT} {nL : Nat} {own : String} {Ts : List Cond} {fr N lo n pc : Nat} {lv : List (Nat × AV)} {m : Mem} (hK : KOK K cL_law nL own Ts fr N lo) (hR : KLr K N) (hn : n ≤ N) (d : decode cL_law pc = .ok (.ireturn, 1)) : AW K n pc lv [q_i 1] m := by
  obtain ⟨p, l, e, R, s, mm, args, below, meth, c, G, A, Z⟩ := K
  intro H locs ls hP hS hl
  obtain ⟨hx, hb, hml, hown, hts, hGO, hlk, hRm, hA⟩ := id hK
  obtain ⟨b, rfl, rfl, -, rfl, hcode, hret, hN, hAs⟩ := hR
  exact va_forget (fun q hq => hAs _ (hS.2.2 q hq)) (W.widen (by omega) (by omega) (lw_ret hx hcode hret hlk d))
