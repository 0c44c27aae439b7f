def R_law : String := "MistakeAlmanacLaw"
def lw_P (b : Addr) (xs : List Int32) (args : Array Value) (s : State) : Prop := args = #[.ref b] ∧ s.IntsAt b xs ∧ xs.length ≤ 2560 ∧ (Jvm.Cond.and given_1 narrow_1).before args s = true
/-- what a walk over the start with the record d0 says of its end, said of the start itself -/
theorem lw_closed {s t : State} {o : Outcome} {d0 : Drawn} {L : List Loc} {k n : Nat} (hd0 : s.drawn.sameBut d0 lw_cs) (hv : ∃ v, o = .returned v) (hW : (s.setDrawn d0).WarmedH t.vm) (hs : (s.setDrawn d0).sameButNew ({ t with vm := s.vm } : State) L k n) : State.butDraws s t lw_cs (fun t1 => Framed s o t1 L k n) := by
  have h2 : t.drawn = d0 := congrArg State.drawn hs.1
  refine ⟨⟨hv, hW, State.sameButNew.setDrawn hs s.drawn⟩, ?_, by decide⟩
  rw [h2]
  exact hd0
def lw_Q (_ : Array Value) (s : State) (o : Outcome) (t : State) : Prop := o = .returned (some (.int 1)) ∧ State.butDraws s t lw_cs (fun t1 => Framed s o t1 [] 600000 7302249)
def lw_Z (below : List Frame) (a : Array Value) (s : State) : State → Prop := fun t => ∃ o, t.status = .running ∧ Ended t below o ∧ lw_Q a s o t
/-- the law's own end, with 1 on the stack, nothing written that was there before, its room as the claim has it; d0: the record of draws at this point (at the entry s.drawn: begin with 'refine W.base ?_' and 'have hd0 := Drawn.sameBut.refl s.drawn lw_cs') -/
theorem lw_ret {p : Program} {l : Launch} {e : Env} {s : State} {m : MethodId} {below : List Frame} {meth : Method} {c : Code} {b : Nat} {d0 : Drawn} (hd0 : s.drawn.sameBut d0 lw_cs) (hx : p.tables.exec = Jvm.exec) (hb : c.code = code) (hr : meth.sig.returnType = ret) (hlocks : meth.locks = false) {pc : Nat} {H : Heap} {ls : Array Slot} (hdg : decode code pc = .ok (.ireturn, 1)) : W p l e room_1 (s.setDrawn d0) m #[Value.ref b] below meth c H [] 600000 7302249 (lw_Z below #[Value.ref b] s) (F0 m pc ls [.int 1]) := by
  intro T hT X
  obtain ⟨fs, hret, hrun, hended, hW, hframe⟩ := X.leave (v := some (.int 1)) (hlocks := hlocks) (fun h => by rw [hr] at h; cases h)
  have hmeth' : T.vm.method? m = some meth := X.method'
  refine ⟨T.setFrames fs, ?_, .returned (some (.int 1)), hrun, hended, rfl, lw_closed hd0 ⟨_, rfl⟩ hW hframe⟩
  jvm_step X.here [X.here.top, hx, hb, hdg, hmeth', hr, ret, narrow_b1]
  (try refine ⟨rfl, ?_⟩); (try refine ⟨rfl, ?_⟩)
  first | (intro acts; rw [hret _ acts rfl rfl rfl]) | rw [hret _ _ rfl rfl rfl]
  exact Steps.refl _
/-- what holds at the law's entry: the machine, the code, the tables' words (any of lw_tbl by 'hts w (by decide +kernel)'), the script of L ints xs at the cell b, what the Statement gives of the start (any of its parts by flat_of_before) -/
def lw_At (p : Program) (s : State) (m : MethodId) (meth : Method) (c : Code) (b L : Nat) (xs : Nat → Int32) : Prop :=
  p.tables.exec = Jvm.exec ∧ c.code = code ∧ meth.sig.returnType = ret ∧ c.maxLocals = 8 ∧ s.vm.findClass R_law = some m.cls ∧ (∀ w ∈ lw_tbl, w.before #[Value.ref b] s = true) ∧ va_X b L xs s s.heap ∧ b < s.heap.size ∧ meth.locks = false ∧ (Jvm.Cond.and given_1 narrow_1).before #[Value.ref b] s = true
theorem x_sld {w : WT} {K : KT} {cc : ByteArray} {nL : Nat} {own : String} {rm : Room} {G : GS} {pc : Nat} {L : List (Nat × Value)} {st : List Value} (hc : CX w K cc nL own rm) {b N : Nat} {xs : Nat → Int32} (hX : va_X b N xs (ks K) (ks K).heap) (hbl : b < (ks K).heap.size) (hbA : ¬ xA w b) {i : Int32} (hin : vp_in i N) (y : Int32) (hy : xs i.toNatClampNeg = y) (hd : decode cc pc = .ok (.iaload, 1)) (kk : XX w K nL G (pc + 1) L (.int y :: st)) : XX w K nL G pc L (.int i :: .ref b :: st) := fun H locs ls hP hS hl =>
  va_sld hc.1 hc.2.1 hX hbl hbA hS hin hd (by rw [hy]; exact kk H locs ls hP hS hl)
theorem x_slen {w : WT} {K : KT} {cc : ByteArray} {nL : Nat} {own : String} {rm : Room} {G : GS} {pc : Nat} {L : List (Nat × Value)} {st : List Value} (hc : CX w K cc nL own rm) {b N : Nat} {xs : Nat → Int32} (hX : va_X b N xs (ks K) (ks K).heap) (hbl : b < (ks K).heap.size) (hbA : ¬ xA w b) (hd : decode cc pc = .ok (.arraylength, 1)) (kk : XX w K nL G (pc + 1) L (.int (nI N) :: st)) : XX w K nL G pc L (.ref b :: st) := fun H locs ls hP hS hl =>
  va_slen hc.1 hc.2.1 hX hbl hbA hS hd (kk H locs ls hP hS hl)
theorem x_dstore {w : WT} {K : KT} {cc : ByteArray} {nL : Nat} {own : String} {rm : Room} {G : GS} {pc : Nat} {L : List (Nat × Value)} {st : List Value} (hc : CX w K cc nL own rm) {i : Nat} {x : UInt64} {L' : List (Nat × Value)} (hd : decode cc pc = .ok (.dstore i, 2)) (hn : i + 1 < nL) (hl2 : (i, Value.double x) :: L.filter (fun q => !(q.1 == i) && (!(q.1 == i + 1) && !(q.1 + 1 == i && q.2.category == 2))) = L') (kk : XX w K nL G (pc + 2) L' st) : XX w K nL G pc L (.double x :: st) := fun H locs ls hP hS hl =>
  lv_dstore hc.1 hc.2.1 hd hl hn hl2 (fun ls2 hl3 => kk H locs ls2 hP hS hl3)
theorem x_dload {w : WT} {K : KT} {cc : ByteArray} {nL : Nat} {own : String} {rm : Room} {G : GS} {pc : Nat} {L : List (Nat × Value)} {st : List Value} (hc : CX w K cc nL own rm) {i : Nat} {x : UInt64} (hd : decode cc pc = .ok (.dload i, 2)) (k : Nat) (hk : L[k]? = some (i, .double x)) (kk : XX w K nL G (pc + 2) L (.double x :: st)) : XX w K nL G pc L st := fun H locs ls hP hS hl =>
  lv_dload hc.1 hc.2.1 hd (lv_at hl k hk) (kk H locs ls hP hS hl)
theorem x_dcmp {w : WT} {K : KT} {cc : ByteArray} {nL : Nat} {own : String} {rm : Room} {G : GS} {pc : Nat} {L : List (Nat × Value)} {st : List Value} (hc : CX w K cc nL own rm) {op : CmpOp} {x y : UInt64} (hd : decode cc pc = .ok (.dcmp op, 1)) (kk : XX w K nL G (pc + 1) L (.int (Op.cmpValue (FP.dcmp x y) op) :: st)) : XX w K nL G pc L (.double y :: .double x :: st) := fun H locs ls hP hS hl =>
  lv_dcmp hc.1 hc.2.1 hd (kk H locs ls hP hS hl)
theorem xZ.at {w : WT} {s U : State} {H : Heap} {locs : List Loc} (h : xZ w s s.heap) (hS : va_S (xA w) s.heap H locs) (hU : U.heap = H) (hW : s.WarmedH U.vm) : xZ w U U.heap := by
  obtain ⟨z1, z2, a1, a2, a3, a4⟩ := h
  subst hU
  exact ⟨z1, z2, (a1.kept hS.2.1).moved hW.alike, (a2.kept hS.2.1).moved hW.alike, (a3.kept hS.2.1).moved hW.alike, (a4.kept hS.2.1).moved hW.alike⟩
theorem xZ.same {w : WT} {u U : State} (hv : u.vm = U.vm) (hh : u.heap = U.heap) (h : xZ w u u.heap) : xZ w U U.heap := by
  obtain ⟨z1, z2, a1, a2, a3, a4⟩ := h
  have hA : u.vm.Alike U.vm := hv ▸ Vm.Alike.refl u.vm
  rw [← hh]
  exact ⟨z1, z2, a1.moved hA, a2.moved hA, a3.moved hA, a4.moved hA⟩
theorem x_callVz {w : WT} {K : KT} {cc : ByteArray} {nL : Nat} {own : String} {rm : Room} {G : GS} {pc : Nat} {L : List (Nat × Value)} {st : List Value} (hc : CX w K cc nL own rm) {st0 : List Value} {y : MethodName} {bytes : ByteArray} {maxL n index : Nat} {ret : Option FieldType} {rm' : Room} (hv : VW own index y bytes maxL ret n) {k ci N : Nat} {fs : (Nat → Int32) → List Value} {T : u_T} {ty : Nat → FieldType} (hk : CF w k ci fs) (hC : KC ci y.cls T N ty) {post : Int32 → GS → Prop} (As : List Value) (hM : MiZ w (kl K) y bytes maxL ret rm' (.ref (w.2.2 k) :: As) G post) (hZ9 : xZ w (ks K) (ks K).heap) (hn : As.length = n) (hst : st0 = As.reverse ++ .ref (w.2.2 k) :: st) (hcat : (st.map fun v => v.category).sum ≤ 8) (hz : rm'.cells = 0) (hs : rm'.slots = 0) (hR : rm'.frames + 1 ≤ rm.frames ∧ 8 + (maxL + 11) + rm'.locals ≤ rm.locals) (hd : decode cc pc = .ok (.invokevirtual index, 3)) (kk : ∀ (r : Int32) (G' : GS), post r G' → XX w K nL G' (pc + 3) L (.int r :: st)) : XX w K nL G pc L st0 := by
  intro H locs ls hP hS hl
  subst hst
  exact va_calli (va_runV (As := As) (rest := st) (hml_ hc) hM (cx_V hc hv hz hs hR) ⟨fun a U g mk q => ⟨q.1, ⟨q.2.1.1, va_K.moved (u := U) (U := U.calling g mk a) (Vm.Alike.refl U.vm) q.2.1.2.1, xN.same rfl q.2.1.2.2⟩, xZ.same (u := U) (U := U.calling g mk a) rfl rfl q.2.2⟩, cx_recv hc hk hC hP, fun U hU hW => ⟨rfl, ⟨by rw [hU]; exact hP, va_K.moved hW.alike hc.2.2.2.2.2.1, xN.warm hW hc.2.2.2.2.2.2.2.1⟩, hZ9.at hS hU hW⟩⟩ rfl hn hl.1 rfl (lv_room hcat) hd (cx_fit hc)) hS (fun q _ h => h) (fun q h => h) (fun r u t H1 locs ht hvm hw hB hz1 hk1 hS1 => kk r u hw H1 locs ls (by rw [← ht]; exact hB) hS1 hl)
/-- the law's walk, over the start with the record d0 -/
abbrev KL (p : Program) (l : Launch) (e : Env) (s : State) (m : MethodId) (below : List Frame) (meth : Method) (c : Code) (b : Nat) (d0 : Drawn) : KT := (p, l, e, room_1, s.setDrawn d0, m, #[Value.ref b], below, meth, c, 600000, 7302249, lw_Z below #[Value.ref b] s)
theorem x_callf {p : Program} {l : Launch} {e : Env} {s : State} {m : MethodId} {below : List Frame} {meth : Method} {c : Code} {b : Nat} {d0 : Drawn} (hd0 : s.drawn.sameBut d0 lw_cs) {w : WT} {G : GS} {pc : Nat} {L : List (Nat × Value)} {st : List Value} (hc : CX w (KL p l e s m below meth c b d0) cL_law 8 RL room_1) {y : MethodName} {bytes : ByteArray} {maxL index : Nat} {rm' : Room} (hv : VW RL index y bytes maxL (some .float) 0) {k ci N : Nat} {fs : (Nat → Int32) → List Value} {T : u_T} {ty : Nat → FieldType} (hk : CF w k ci fs) (hC : KC ci y.cls T N ty) {post : UInt32 → GS → Prop} (hM : MfD w l y bytes maxL rm' [.ref (w.2.2 k)] G post) (hcat : (st.map fun v => v.category).sum ≤ 8) (hz : rm'.cells = 0) (hs : rm'.slots = 0) (hR : rm'.frames + 1 ≤ room_1.frames ∧ 8 + (maxL + 11) + rm'.locals ≤ room_1.locals) (hd : decode cL_law pc = .ok (.invokevirtual index, 3)) (kk : ∀ (r : UInt32) (G' : GS) (d1 : Drawn), post r G' → s.drawn.sameBut d1 lw_cs → XX w (KL p l e s m below meth c b d1) 8 G' (pc + 3) L (.float r :: st)) : XX w (KL p l e s m below meth c b d0) 8 G pc L (.ref (w.2.2 k) :: st) := by
  intro H locs ls hP hS hl
  exact va_callfD hd0 (va_runV_D (As := []) (rest := st) (hml_ hc) hM (cx_V hc hv hz hs hR) ⟨xPre_blind, cx_recv hc hk hC hP, xPre_at hP hc.2.2.2.2.2.1 hc.2.2.2.2.2.2.2.1⟩ rfl rfl hl.1 rfl (lv_room hcat) hd (cx_fit hc)) hS (fun q _ h => h) (fun q h => h) (fun r u t H1 locs ht hvm hw hB hz1 hk1 hS1 d1 hd1 => kk r u d1 hw hd1 H1 locs ls (by rw [← ht]; exact hB) hS1 hl)
theorem x_f2d {p : Program} {l : Launch} {e : Env} {s : State} {m : MethodId} {below : List Frame} {meth : Method} {c : Code} {b : Nat} {d0 : Drawn} (hd0 : s.drawn.sameBut d0 lw_cs) {w : WT} {G : GS} {pc : Nat} {L : List (Nat × Value)} {st : List Value} (hc : CX w (KL p l e s m below meth c b d0) cL_law 8 RL room_1) {x : UInt32} (hd : decode cL_law pc = .ok (.f2d, 1)) (kk : ∀ (r : UInt64) (d1 : Drawn), alike64 r (FP.f2d x) = true → s.drawn.sameBut d1 lw_cs → XX w (KL p l e s m below meth c b d1) 8 G (pc + 1) L (.double r :: st)) : XX w (KL p l e s m below meth c b d0) 8 G pc L (.float x :: st) := by
  intro H locs ls hP hS hl
  exact lv_f2d_any hd0 lw_bits hc.1 hc.2.1 hd (fun r d1 hal hd1 => kk r d1 hal hd1 H locs ls hP hS hl)
/-! two mean mistakes, compared -/
theorem nan64_dec {b : UInt64} (h : isNaN64 b = true) : FP.Core.decode FP.Core.b64 b.toNat = .nan := by
  rw [isNaN64_iff, show (0x7fffffffffffffff : Nat) = 2 ^ 63 - 1 from rfl, Nat.and_two_pow_sub_one_eq_mod] at h
  have e1 : FP.Core.b64.tails = 4503599627370496 := rfl
  have e2 : FP.Core.b64.exps = 2048 := rfl
  unfold FP.Core.decode FP.Core.fieldE FP.Core.fieldT
  rw [e1, e2, if_pos (by omega), if_neg (by omega)]
theorem nan32_dec {b : UInt32} (h : isNaN32 b = true) : FP.Core.decode FP.Core.b32 b.toNat = .nan := by
  rw [isNaN32_iff, show (0x7fffffff : Nat) = 2 ^ 31 - 1 from rfl, Nat.and_two_pow_sub_one_eq_mod] at h
  have e1 : FP.Core.b32.tails = 8388608 := rfl
  have e2 : FP.Core.b32.exps = 256 := rfl
  unfold FP.Core.decode FP.Core.fieldE FP.Core.fieldT
  rw [e1, e2, if_pos (by omega), if_neg (by omega)]
theorem f2d_nan64 {p : UInt32} (h : isNaN32 p = true) : isNaN64 (FP.f2d p) = true := by
  have e : FP.Core.fIsNaN p = true := by
    unfold FP.Core.fIsNaN FP.Core.isNaN
    rw [nan32_dec h]
    rfl
  unfold FP.f2d
  rw [if_pos e]
  unfold FP.nanF2D
  exact isNaN64_or_left (isNaN64_or_right (by decide))
theorem nan_cmp {y : UInt64} (h : isNaN64 y = true) : Op.cmpValue (FP.dcmp y y) .l ≠ 0 := by
  have e : FP.dcmp y y = FP.Core.order (FP.Core.decode FP.Core.b64 y.toNat) (FP.Core.decode FP.Core.b64 y.toNat) := rfl
  rw [e, nan64_dec h]
  decide
theorem al64 {r x : UInt64} (h : alike64 r x = true) : r = x ∨ (isNaN64 r = true ∧ isNaN64 x = true) := by
  unfold alike64 at h
  rw [Bool.or_eq_true, decide_eq_true_eq, Bool.and_eq_true] at h
  exact h
theorem al32 {r x : UInt32} (h : alike32 r x = true) : r = x ∨ (isNaN32 r = true ∧ isNaN32 x = true) := by
  unfold alike32 at h
  rw [Bool.or_eq_true, decide_eq_true_eq, Bool.and_eq_true] at h
  exact h
theorem mm_eq {f : Nat → Int32} {p q : UInt32} (h1 : MMp f p) (h2 : MMp f q) : p = q ∨ (isNaN32 p = true ∧ isNaN32 q = true) := by
  rcases h1 with ⟨a1, b1⟩ | ⟨a1, b1⟩ <;> rcases h2 with ⟨a2, b2⟩ | ⟨a2, b2⟩
  · exact Or.inl (b1.trans b2.symm)
  · exact absurd a1 a2
  · exact absurd a2 a1
  · rcases al32 b1 with e1 | ⟨n1, m1⟩ <;> rcases al32 b2 with e2 | ⟨n2, m2⟩
    · exact Or.inl (e1.trans e2.symm)
    · exact Or.inr ⟨by rw [e1]; exact m2, n2⟩
    · exact Or.inr ⟨n1, by rw [e2]; exact m1⟩
    · exact Or.inr ⟨n1, n2⟩
theorem al_nan {r x : UInt64} (h : alike64 r x = true) (hx : isNaN64 x = true) : isNaN64 r = true := by
  rcases al64 h with e | ⟨n, _⟩
  · rw [e]; exact hx
  · exact n
/-- both doubles are one number, or each differs from itself -/
theorem mm_cmp {f : Nat → Int32} {p q : UInt32} {x y : UInt64} (h1 : MMp f p) (h2 : MMp f q) (h3 : alike64 x (FP.f2d p) = true) (h4 : alike64 y (FP.f2d q) = true) : Op.cmpValue (FP.dcmp x y) .l = 0 ∨ (Op.cmpValue (FP.dcmp x x) .l ≠ 0 ∧ Op.cmpValue (FP.dcmp y y) .l ≠ 0) := by
  rcases mm_eq h1 h2 with e | ⟨n1, n2⟩
  · subst e
    by_cases hn : isNaN64 (FP.f2d p) = true
    · exact Or.inr ⟨nan_cmp (al_nan h3 hn), nan_cmp (al_nan h4 hn)⟩
    · have e3 : x = FP.f2d p := (al64 h3).resolve_right (fun z => hn z.2)
      have e4 : y = FP.f2d p := (al64 h4).resolve_right (fun z => hn z.2)
      rw [e3, e4]
      by_cases h : Op.cmpValue (FP.dcmp (FP.f2d p) (FP.f2d p)) .l = 0
      · exact Or.inl h
      · exact Or.inr ⟨h, h⟩
  · exact Or.inr ⟨nan_cmp (al_nan h3 (f2d_nan64 n1)), nan_cmp (al_nan h4 (f2d_nan64 n2))⟩
theorem nar_char (x : Int32) : vp_nar .char ((x.toUInt32 % 65536).toInt32) = (x.toUInt32 % 65536).toInt32 := by
  have e : ∀ n, n < 65536 → ((nI n).toUInt32 % 65536).toInt32 = nI n := fun n hn => by
    rw [pk_char]
    have e1 : (nI n).toBitVec.toNat = n % 2 ^ 32 := by
      show (BitVec.ofNat 32 n).toNat = _
      rw [BitVec.toNat_ofNat]
    rw [e1, show n % 2 ^ 32 % 65536 = n by omega]
  show (((x.toUInt32 % 65536).toInt32).toUInt32 % 65536).toInt32 = _
  rw [pk_char x]
  exact e _ (Nat.mod_lt _ (by omega))
