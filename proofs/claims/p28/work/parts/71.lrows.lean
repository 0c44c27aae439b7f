def R_law : String := "MistakeAlmanacLaw"
def lw_P (b : Addr) (xs : List Int32) (args : Array Value) (s : State) : Prop := args = #[.ref b] ∧ s.IntsAt b xs ∧ xs.length ≤ 260 ∧ (Jvm.Cond.and given_1 narrow_1).before args s = true
/-- what a walk over the start with the record d0 says of its end, said of the start itself -/
theorem lw_closed {s t : State} {o : Outcome} {d0 : Drawn} {L : List Loc} {k n : Nat} (hd0 : s.drawn.sameBut d0 lw_cs) (hv : ∃ v, o = .returned v) (hW : (s.setDrawn d0).WarmedH t.vm) (hs : (s.setDrawn d0).sameButNew ({ t with vm := s.vm } : State) L k n) : State.butDraws s t lw_cs (fun t1 => Framed s o t1 L k n) := by
  have h2 : t.drawn = d0 := congrArg State.drawn hs.1
  refine ⟨⟨hv, hW, State.sameButNew.setDrawn hs s.drawn⟩, ?_, by decide⟩
  rw [h2]
  exact hd0
def lw_Q (_ : Array Value) (s : State) (o : Outcome) (t : State) : Prop := o = .returned (some (.int 1)) ∧ State.butDraws s t lw_cs (fun t1 => Framed s o t1 [] 600000 7302249)
def lw_Z (below : List Frame) (a : Array Value) (s : State) : State → Prop := fun t => ∃ o, t.status = .running ∧ Ended t below o ∧ lw_Q a s o t
/-- the law's own end, with 1 on the stack, nothing written that was there before, its room as the claim has it; d0: the record of draws at this point (at the entry s.drawn: begin with 'refine W.base ?_' and 'have hd0 := Drawn.sameBut.refl s.drawn lw_cs') -/
theorem lw_ret {p : Program} {l : Launch} {e : Env} {s : State} {m : MethodId} {below : List Frame} {meth : Method} {c : Code} {b : Nat} {d0 : Drawn} (hd0 : s.drawn.sameBut d0 lw_cs) (hx : p.tables.exec = Jvm.exec) (hb : c.code = code) (hr : meth.sig.returnType = ret) (hlocks : meth.locks = false) {pc : Nat} {H : Heap} {ls : Array Slot} (hdg : decode code pc = .ok (.ireturn, 1)) : W p l e room_1 (s.setDrawn d0) m #[Value.ref b] below meth c H [] 600000 7302249 (lw_Z below #[Value.ref b] s) (F0 m pc ls [.int 1]) := by
  intro T hT X
  obtain ⟨fs, hret, hrun, hended, hW, hframe⟩ := X.leave (v := some (.int 1)) (hlocks := hlocks) (fun h => by rw [hr] at h; cases h)
  have hmeth' : T.vm.method? m = some meth := X.method'
  refine ⟨T.setFrames fs, ?_, .returned (some (.int 1)), hrun, hended, rfl, lw_closed hd0 ⟨_, rfl⟩ hW hframe⟩
  jvm_step X.here [X.here.top, hx, hb, hdg, hmeth', hr, ret, narrow_b1]
  (try refine ⟨rfl, ?_⟩); (try refine ⟨rfl, ?_⟩)
  first | (intro acts; rw [hret _ acts rfl rfl rfl]) | rw [hret _ _ rfl rfl rfl]
  exact Steps.refl _
/-- what holds at the law's entry: the machine, the code, the tables' words (any of lw_tbl by 'hts w (by decide +kernel)'), the script of L ints xs at the cell b, what the Statement gives of the start (any of its parts by flat_of_before) -/
def lw_At (p : Program) (s : State) (m : MethodId) (meth : Method) (c : Code) (b L : Nat) (xs : Nat → Int32) : Prop :=
  p.tables.exec = Jvm.exec ∧ c.code = code ∧ meth.sig.returnType = ret ∧ c.maxLocals = 5 ∧ s.vm.findClass R_law = some m.cls ∧ (∀ w ∈ lw_tbl, w.before #[Value.ref b] s = true) ∧ va_X b L xs s s.heap ∧ b < s.heap.size ∧ meth.locks = false ∧ (Jvm.Cond.and given_1 narrow_1).before #[Value.ref b] s = true
theorem x_sld {w : WT} {K : KT} {cc : ByteArray} {nL : Nat} {own : String} {rm : Room} {G : GS} {pc : Nat} {L : List (Nat × Value)} {st : List Value} (hc : CX w K cc nL own rm) {b N : Nat} {xs : Nat → Int32} (hX : va_X b N xs (ks K) (ks K).heap) (hbl : b < (ks K).heap.size) (hbA : ¬ xA w b) {i : Int32} (hin : vp_in i N) (y : Int32) (hy : xs i.toNatClampNeg = y) (hd : decode cc pc = .ok (.iaload, 1)) (kk : XX w K nL G (pc + 1) L (.int y :: st)) : XX w K nL G pc L (.int i :: .ref b :: st) := fun H locs ls hP hS hl =>
  va_sld hc.1 hc.2.1 hX hbl hbA hS hin hd (by rw [hy]; exact kk H locs ls hP hS hl)
theorem x_slen {w : WT} {K : KT} {cc : ByteArray} {nL : Nat} {own : String} {rm : Room} {G : GS} {pc : Nat} {L : List (Nat × Value)} {st : List Value} (hc : CX w K cc nL own rm) {b N : Nat} {xs : Nat → Int32} (hX : va_X b N xs (ks K) (ks K).heap) (hbl : b < (ks K).heap.size) (hbA : ¬ xA w b) (hd : decode cc pc = .ok (.arraylength, 1)) (kk : XX w K nL G (pc + 1) L (.int (nI N) :: st)) : XX w K nL G pc L (.ref b :: st) := fun H locs ls hP hS hl =>
  va_slen hc.1 hc.2.1 hX hbl hbA hS hd (kk H locs ls hP hS hl)
abbrev KL (p : Program) (l : Launch) (e : Env) (s : State) (m : MethodId) (below : List Frame) (meth : Method) (c : Code) (b : Nat) (d0 : Drawn) : KT := (p, l, e, room_1, s.setDrawn d0, m, #[Value.ref b], below, meth, c, 600000, 7302249, lw_Z below #[Value.ref b] s)
theorem x_callf {p : Program} {l : Launch} {e : Env} {s : State} {m : MethodId} {below : List Frame} {meth : Method} {c : Code} {b : Nat} {d0 : Drawn} (hd0 : s.drawn.sameBut d0 lw_cs) {w : WT} {G : GS} {pc : Nat} {L : List (Nat × Value)} {st : List Value} (hc : CX w (KL p l e s m below meth c b d0) cL_law 5 RL room_1) {y : MethodName} {bytes : ByteArray} {maxL index : Nat} {rm' : Room} (hv : VW RL index y bytes maxL (some .float) 0) {k ci N : Nat} {fs : (Nat → Int32) → List Value} {T : u_T} {ty : Nat → FieldType} (hk : CF w k ci fs) (hC : KC ci y.cls T N ty) {post : UInt32 → GS → Prop} (hM : MfD w l y bytes maxL rm' [.ref (w.2.2 k)] G post) (hcat : (st.map fun v => v.category).sum ≤ 8) (hz : rm'.cells = 0) (hs : rm'.slots = 0) (hR : rm'.frames + 1 ≤ room_1.frames ∧ 8 + (maxL + 11) + rm'.locals ≤ room_1.locals) (hd : decode cL_law pc = .ok (.invokevirtual index, 3)) (kk : ∀ (r : UInt32) (G' : GS) (d1 : Drawn), post r G' → s.drawn.sameBut d1 lw_cs → XX w (KL p l e s m below meth c b d1) 5 G' (pc + 3) L (.float r :: st)) : XX w (KL p l e s m below meth c b d0) 5 G pc L (.ref (w.2.2 k) :: st) := by
  intro H locs ls hP hS hl
  exact va_callfD hd0 (va_runV_D (As := []) (rest := st) (hml_ hc) hM (cx_V hc hv hz hs hR) ⟨xPre_blind, cx_recv hc hk hC hP, xPre_at hP hc.2.2.2.2.2.1 hc.2.2.2.2.2.2.2.1⟩ rfl rfl hl.1 rfl (lv_room hcat) hd (cx_fit hc)) hS (fun q _ h => h) (fun q h => h) (fun r u t H1 locs ht hvm hw hB hz1 hk1 hS1 d1 hd1 => kk r u d1 hw hd1 H1 locs ls (by rw [← ht]; exact hB) hS1 hl)
theorem x_fcmp {w : WT} {K : KT} {cc : ByteArray} {nL : Nat} {own : String} {rm : Room} {G : GS} {pc : Nat} {L : List (Nat × Value)} {st : List Value} (hc : CX w K cc nL own rm) {op : CmpOp} {x y : UInt32} (hd : decode cc pc = .ok (.fcmp op, 1)) (kk : XX w K nL G (pc + 1) L (.int (Op.cmpValue (FP.fcmp x y) op) :: st)) : XX w K nL G pc L (.float y :: .float x :: st) := fun H locs ls hP hS hl =>
  lv_fcmp hc.1 hc.2.1 hd (kk H locs ls hP hS hl)
theorem f0_cmp : Op.cmpValue (FP.fcmp FP.fconst0 FP.fconst0) .l = 0 := by decide +kernel
/-! the script's cells -/
def MiS (w : WT) (l : Launch) (b N : Nat) (xs : Nat → Int32) (y : MethodName) (c : ByteArray) (n : Nat) (ret : Option FieldType) (rm : Room) (av : List Value) (G : GS) (post : Int32 → GS → Prop) : Prop :=
  Met l y (ws_ y c n ret) rm (va_Pc av (fun U => xPre w G U ∧ va_X b N xs U U.heap ∧ b < U.heap.size)) (va_Qi post (fun G' t => va_P w.1 vwCl (wl w G') t.heap) (xA w)) 0 0 (xA w)
theorem mk_iS {w : WT} {l : Launch} {b N : Nat} {xs : Nat → Int32} {y : MethodName} {c : ByteArray} {n : Nat} {rm : Room} {av : List Value} {G : GS} {L0 : List (Nat × Value)} {ty : FieldType} {post : Int32 → GS → Prop} (hI : xI w) (hy : plainName y.cls = true) (hL : lv_args 0 av = L0) (hlen : (lg_sl av).length ≤ n) (hz : ∀ v G', post v G' → narrow ty (.int v) = .int v)
    (body : ∀ K : KT, CX w K c n y.cls rm → va_X b N xs (ks K) (ks K).heap → b < (ks K).heap.size → (∀ (pc : Nat) (G' : GS) (L : List (Nat × Value)) (v : Int32), decode c pc = .ok (.ireturn, 1) → post v G' → XX w K n G' pc L [.int v]) → XX w K n G 0 L0 []) : MiS w l b N xs y c n (some ty) rm av G post := by
  refine Met.ofW (cc := c) (maxL := n) (ret := some ty) hy rfl ?_
  intro p e s m args below meth cd s₁ B hml hv
  obtain ⟨rfl, ⟨hP, hK, hN⟩, hX9, hb9⟩ := hv
  have hts := atoms_spec (ws := ws_ y c n (some ty)) B.pre
  have hc : CX w (p, l, e, (headSpec (ws_ y c n (some ty)) rm).room, s, m, av.toArray, below, meth, cd, 0, 0, MQ below (va_Qi post (fun G' t => va_P w.1 vwCl (wl w G') t.heap) (xA w)) av.toArray s 0 0 (xA w)) c n y.cls rm :=
    ⟨B.exec, B.bytes, hml, findClass_of_methodNamed B.named, fun wd h => hts wd (List.mem_cons_of_mem _ h), hK, hI, hN, rfl, Nat.zero_le _, Nat.zero_le _⟩
  have hb := body _ hc hX9 hb9 (fun pc G' L v hd hp H locs ls hP' hS' hl' =>
    W.zret (v := v) B.exec B.bytes B.returns (hz v G' hp) (fun t ht hW => ⟨⟨v, G', rfl, hp, by show va_P _ _ _ t.heap; rw [ht]; exact hP'⟩, hS'.F ht⟩) hS'.2.2 hd B.notSynchronized)
  have hl := lv_entry av (n := n) hlen
  rw [lg_entry_eq]
  exact hb s.heap [] _ hP va_S.rf (hL ▸ hl)
set_option maxHeartbeats 4000000 in
set_option maxRecDepth 100000 in
theorem c_cell {w : WT} (hI : xI w) (l : Launch) {b N : Nat} {xs : Nat → Int32} (hN : N ≤ 260) (hbA : ¬ xA w b) (G : GS) {i : Nat} (hi : i < 1000) : MiS w l b N xs yL_cell cL_cell 2 (some .int) ⟨0, 0, 0, 0⟩ [.ref b, .int (nI i)] G (fun _ G' => G' = G) := by
  refine mk_iS (L0 := [(0, .ref b), (1, .int (nI i))]) hI (by decide +kernel) rfl (Nat.le_of_ble_eq_true rfl) (fun _ _ _ => rfl) (fun K hc hX hbl hret => ?_)
  refine x_iload_n (pc := 0) hc dL_cell_0 1 rfl ?_
  refine x_aload_n (pc := 1) hc dL_cell_1 0 rfl ?_
  refine x_slen (pc := 2) hc hX hbl hbA dL_cell_2 ?_
  refine x_icmp_ge (pc := 3) hc dL_cell_3 12 (by decide) (fun c3 => ?_) (fun c3 => ?_)
  · refine x_sipush (v := 7919) (pc := 12) hc dL_cell_12 (by decide) ?_
    refine x_iload_n (pc := 15) hc dL_cell_15 1 rfl ?_
    refine x_iconst (v := 3) (pc := 16) hc dL_cell_16 (by decide) ?_
    refine x_iadd (pc := 17) hc dL_cell_17 ?_
    refine x_imul (pc := 18) hc dL_cell_18 ?_
    refine x_iload_n (pc := 19) hc dL_cell_19 1 rfl ?_
    refine x_bipush (v := 11) (pc := 20) hc dL_cell_20 (by decide) ?_
    refine x_iadd (pc := 22) hc dL_cell_22 ?_
    refine x_imul (pc := 23) hc dL_cell_23 ?_
    exact hret _ _ _ _ dL_cell_24 rfl
  · have c3 : ¬ N ≤ i := fun h9 => c3 ((nI_leI (a := N) (b := i) (by omega) (by omega)).mpr h9)
    refine x_aload_n (pc := 6) hc dL_cell_6 0 rfl ?_
    refine x_iload_n (pc := 7) hc dL_cell_7 1 rfl ?_
    refine x_sld (pc := 8) hc hX hbl hbA (vp_in_nI (by omega) (by omega)) (xs i) (by rw [nI_clamp (by omega)]) dL_cell_8 ?_
    refine x_goto (pc := 9) hc dL_cell_9 24 (by decide) ?_
    exact hret _ _ _ _ dL_cell_24 rfl
theorem x_callSs {w : WT} {K : KT} {cc : ByteArray} {nL : Nat} {own : String} {rm : Room} {G : GS} {pc : Nat} {L : List (Nat × Value)} {st : List Value} (hc : CX w K cc nL own rm) {st0 : List Value} {y : MethodName} {bytes : ByteArray} {maxL n index : Nat} {ret : Option FieldType} {rm' : Room} (hv : SW own index y bytes maxL ret n) {b N : Nat} {xs : Nat → Int32} {post : Int32 → GS → Prop} (As : List Value) (hM : MiS w (kl K) b N xs y bytes maxL ret rm' As G post) (hX : va_X b N xs (ks K) (ks K).heap) (hbl : b < (ks K).heap.size) (hbA : ¬ xA w b) (hn : As.length = n) (hst : st0 = As.reverse ++ st) (hcat : (st.map fun v => v.category).sum ≤ 8) (hz : rm'.cells = 0) (hs : rm'.slots = 0) (hR : rm'.frames + 1 ≤ rm.frames ∧ 8 + (maxL + 11) + rm'.locals ≤ rm.locals) (hd : decode cc pc = .ok (.invokestatic index, 3)) (kk : ∀ (r : Int32) (G' : GS), post r G' → XX w K nL G' (pc + 3) L (.int r :: st)) : XX w K nL G pc L st0 := by
  intro H locs ls hP hS hl
  subst hst
  have hXH := hX.kept (H1 := H) (hS.2.1 b hbl hbA)
  have hbH : b < H.size := Nat.lt_of_lt_of_le hbl hS.1
  exact va_calli (va_runS (As := As) (rest := st) (hml_ hc) hM (cx_S hc hv hz hs hR) ⟨fun a U g mk q => ⟨q.1, ⟨q.2.1.1, va_K.moved (u := U) (U := U.calling g mk a) (Vm.Alike.refl U.vm) q.2.1.2.1, xN.same rfl q.2.1.2.2⟩, va_X.moved (u := U) (U := U.calling g mk a) (Vm.Alike.refl U.vm) q.2.2.1, q.2.2.2⟩, fun U hU hW => ⟨rfl, ⟨by rw [hU]; exact hP, va_K.moved hW.alike hc.2.2.2.2.2.1, xN.warm hW hc.2.2.2.2.2.2.2.1⟩, by rw [hU]; exact hXH.moved hW.alike, by rw [hU]; exact hbH⟩⟩ rfl hn hl.1 rfl (lv_room hcat) hd (cx_fit hc)) hS (fun q _ h => h) (fun q h => h) (fun r u t H1 locs ht hvm hw hB hz1 hk1 hS1 => kk r u hw H1 locs ls (by rw [← ht]; exact hB) hS1 hl)
theorem l_cell {w : WT} {K : KT} {cc : ByteArray} {nL : Nat} {own : String} {rm : Room} {A : AT} {D : Nat → Int32} {pc : Nat} {L : List (Nat × Value)} {st : List Value} (hI : xI w) (hc : CX w K cc nL own rm) {index : Nat} (hv : SW own index yL_cell cL_cell 2 (some .int) 2) {b N : Nat} {xs : Nat → Int32} (hN : N ≤ 260) (hX : va_X b N xs (ks K) (ks K).heap) (hbl : b < (ks K).heap.size) (hbA : ¬ xA w b) {i : Nat} (hi : i < 1000) (hcat : (st.map fun v => v.category).sum ≤ 8) (hR : 0 + 1 ≤ rm.frames ∧ 8 + (2 + 11) + 0 ≤ rm.locals) (hd : decode cc pc = .ok (.invokestatic index, 3)) (kk : ∀ r : Int32, LX w K nL A D (pc + 3) L (.int r :: st)) : LX w K nL A D pc L (.int (nI i) :: .ref b :: st) := fun G h1 h2 =>
  x_callSs hc hv [.ref b, .int (nI i)] (c_cell hI (kl K) hN hbA G hi) hX hbl hbA rfl rfl hcat rfl rfl hR hd (fun r G' e => by rw [e]; exact kk r G h1 h2)
/-! THE FRESH WORLD -/
def A0 : AT := (f0, 0, fun _ _ => 0, 0, fun _ => 0, 0, fun _ => 0)
theorem RC_fresh {G : GS} (a4 : G 0 4 = 5) (a5 : G 0 5 = 0) (a6 : G 0 6 = 0) (hh : ∀ i, i < 4 → G 3 i = nI i) (h11 : G 1 1 = 0) (hs : ∀ c i, c < 39 → relS c i → G (200 + c) i = gs0 c i) (ho : ∀ j, j < 6 → ∀ k, k < 4 → G (5 + 39 * j + (35 + k)) 2 = 0) : RC G A0 := by
  have sn : ∀ i, i < 4 → stb (G 3 i) = 5 + 39 * i := fun i hi => by unfold stb; rw [hh i hi, nI_clamp (by omega)]
  have s4 : stb (G 0 4) = 200 := by rw [a4]; rfl
  refine ⟨?_, ?_, ?_, fun i hi => ?_, ?_, fun hk => ?_, ⟨?_, fun i hi => ?_⟩, fun b hb k hk => ?_⟩
  · show SB (stb (G 3 0)) (stb (G 3 1)) (stb (G 3 2)) (stb (G 3 3)) (stb (G 0 4))
    rw [sn 0 (by omega), sn 1 (by omega), sn 2 (by omega), sn 3 (by omega), s4]
    exact ⟨⟨⟨0, by omega, rfl⟩, ⟨1, by omega, rfl⟩, ⟨2, by omega, rfl⟩, ⟨3, by omega, rfl⟩, ⟨5, by omega, rfl⟩⟩, by omega, by omega⟩
  · rw [s4]
    exact Sim_congr (fun c i hc hr => hs c i hc hr) RV_0.2.2.2.2.1.1 (Nat.le_of_lt RV_0.1.1) Sim_0
  · exact a5
  · exact absurd hi (Nat.not_lt_zero i)
  · exact a6
  · exact absurd hk (by decide)
  · exact h11
  · exact absurd hi (Nat.not_lt_zero i)
  · obtain ⟨j, hj, rfl⟩ := hb
    exact Or.inl (ho j hj k hk)
theorem RC_G0 : RC G0 A0 := by
  refine RC_fresh rfl rfl rfl (fun i _ => rfl) rfl (fun c i hc _ => ?_) (fun j hj k hk => ?_)
  · have := congrFun (G0_st (j := 5) (c := c) (by omega) hc) i
    rw [show 5 + 39 * 5 + c = 200 + c by omega] at this
    exact this
  · have := congrFun (G0_st (j := j) (c := 35 + k) hj (by omega)) 2
    rw [this]
    unfold gs0
    rw [if_neg (by omega), if_pos (by omega), if_neg (by omega)]
theorem LG_0 : LG A0 0 := by
  have e0 : ∀ i, i < 303 → f0 i = 0 := fun i hi => f0_z (by omega) (by omega) (by omega) (by omega)
  have eY : yN f0 = 0 := by unfold yN; rw [e0 301 (by omega)]; rfl
  have eD : dN f0 = 0 := by unfold dN; rw [e0 300 (by omega)]; rfl
  have eK : kN f0 = 0 := by unfold kN; rw [eY]; rfl
  refine ⟨⟨⟨Nat.zero_le _, RV_0, fun i hi => absurd hi (Nat.not_lt_zero i), Or.inl rfl, fun hk => absurd hk (by decide), Nat.zero_le _⟩, ⟨BZ_0, fun i hi => absurd hi (Nat.not_lt_zero i), fun hk => absurd hk (by decide)⟩⟩, ⟨fun d hd => ?_, fun a ha => ?_⟩⟩
  · have h : d < dN f0 := hd
    rw [eD] at h
    omega
  · have h : a < kN f0 := ha
    rw [eK] at h
    omega
/-- where a cell stands in the order of making -/
def ordK (k : Nat) : Nat := if k < 4 then k else if k = 4 then 199 else if k < 200 then k - 1 else k
theorem ord_inv (q : Nat) (h : q < 240) : ordK (inv q) = q := by
  rcases (show q < 4 ∨ (4 ≤ q ∧ q < 199) ∨ q = 199 ∨ 200 ≤ q by omega) with h1 | ⟨h1, h2⟩ | h1 | h1
  · rw [inv_lo h1]; exact if_pos h1
  · rw [inv_mid h1 h2]
    unfold ordK
    rw [if_neg (by omega), if_neg (by omega), if_pos (by omega)]
    omega
  · subst h1; rfl
  · rw [inv_hi h1]
    unfold ordK
    rw [if_neg (by omega), if_neg (by omega), if_neg (by omega)]
theorem inv_ord (k : Nat) (h : k < 240) : inv (ordK k) = k ∧ ordK k < 240 := by
  rcases (show k < 4 ∨ k = 4 ∨ (5 ≤ k ∧ k < 200) ∨ 200 ≤ k by omega) with h1 | h1 | ⟨h1, h2⟩ | h1
  · rw [show ordK k = k from if_pos h1]; exact ⟨inv_lo h1, h⟩
  · subst h1; exact ⟨rfl, by decide⟩
  · have e : ordK k = k - 1 := by
      unfold ordK
      rw [if_neg (by omega), if_neg (by omega), if_pos (by omega)]
    rw [e, inv_mid (by omega) (by omega)]
    exact ⟨by omega, by omega⟩
  · have e : ordK k = k := by
      unfold ordK
      rw [if_neg (by omega), if_neg (by omega), if_neg (by omega)]
    rw [e]; exact ⟨inv_hi h1, h⟩
/-- the fresh cells, told in the world's own order -/
theorem EF_world {w : WT} {n0 : Nat} {H : Heap} (ha : ∀ k, k < 240 → w.2.2 k = n0 + ordK k) (hP : va_P w.1 vwCl (wlE n0 (EF w) 240) H) : va_P w.1 vwCl (wl w G0) H := by
  intro k q hq
  have hk : k < 240 := by
    have := (List.getElem?_eq_some_iff.mp hq).1
    rwa [wl_len] at this
  rw [wl_get hk rfl] at hq
  cases hq
  obtain ⟨h1, h2⟩ := inv_ord k hk
  have h3 := hP (ordK k) _ (wlE_get n0 (EF w) h2)
  have e : EF w (ordK k) = cellSh w.2.1 w.2.2 k (G0 k) := by
    unfold EF
    rw [h1]
  rw [e, ← ha k hk] at h3
  exact h3
