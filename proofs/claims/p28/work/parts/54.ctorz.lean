/-! the constructors that read a static table, make arrays of references, call a nest mate's constructor -/
def yZ (n0 : Nat) (U : State) : Prop := va_AO RX4 U ∧ va_AO RX2 U ∧ va_AO RX1 U ∧ va_AO RX3 U ∧ va_Nw (.methodLinkNest RX3 37 yX2_init RX5) U ∧ va_Nw (.methodLinkNest RX3 44 yX1_init RX5) U ∧ va_Nw (.fieldLinkNest RX3 15 RX5 "FIRST_SETTINGS" "[I" RX5) U ∧ ∃ z : Nat, va_Z RX5 "FIRST_SETTINGS" "[I" (.ref z) (yA n0) U U.heap ∧ va_T .int z 4 (fun j => .int (gs0 1 j)) (yA n0) U U.heap
theorem yZ.at {n0 : Nat} {s U : State} {H : Heap} {locs : List Loc} (h : yZ n0 s) (hS : va_S (yA n0) s.heap H locs) (hU : U.heap = H) (hW : s.WarmedH U.vm) : yZ n0 U := by
  obtain ⟨a1, a2, a3, a4, b1, b2, b3, z, h1, h2⟩ := h
  subst hU
  exact ⟨a1.moved hW.alike, a2.moved hW.alike, a3.moved hW.alike, a4.moved hW.alike, va_Nw.warmM hW b1, va_Nw.warmM hW b2, va_Nw.warmF hW b3, z, (h1.kept hS.2.1).moved hW.alike, (h2.kept hS.2.1).moved hW.alike⟩
theorem yZ.same {n0 : Nat} {u U : State} (hv : u.vm = U.vm) (hh : u.heap = U.heap) (h : yZ n0 u) : yZ n0 U := by
  obtain ⟨a1, a2, a3, a4, b1, b2, b3, z, h1, h2⟩ := h
  have hA : u.vm.Alike U.vm := hv ▸ Vm.Alike.refl u.vm
  exact ⟨a1.moved hA, a2.moved hA, a3.moved hA, a4.moved hA, va_Nw.same rfl hv b1, va_Nw.same rfl hv b2, va_Nw.same rfl hv b3, z, by rw [← hh]; exact h1.moved hA, by rw [← hh]; exact h2.moved hA⟩
def Mcz (w : WT) (l : Launch) (y : MethodName) (c : ByteArray) (n : Nat) (rm : Room) (av : List Value) (n0 : Nat) (E : Nat → va_E) (m : Nat) (E' : Nat → va_E) (m' mc ms : Nat) : Prop :=
  Met l y (ws_ y c n none) rm (va_Pc av (fun U => gPre w n0 E m U ∧ yZ n0 U)) (va_Qv (fun _ : Unit => True) (fun _ t => va_P w.1 vwCl (wlE n0 E' m') t.heap ∧ t.heap.size = n0 + m') (yA n0)) mc ms (yA n0)
theorem mk_cz {w : WT} {l : Launch} {y : MethodName} {c : ByteArray} {n : Nat} {rm : Room} {av : List Value} {n0 : Nat} {E : Nat → va_E} {m : Nat} {E' : Nat → va_E} {m' mc ms : Nat} {L0 : List (Nat × Value)} (hy : plainName y.cls = true) (hL : lv_args 0 av = L0) (hlen : (lg_sl av).length ≤ n)
    (body : ∀ K : KT, CY w n0 K c n y.cls rm → yZ n0 (ks K) → (kme K).name = y.name → (∀ (pc : Nat) (L : List (Nat × Value)), decode c pc = .ok (.return_, 1) → YY w n0 K n E' m' mc ms pc L []) → YY w n0 K n E m 0 0 0 L0 []) : Mcz w l y c n rm av n0 E m E' m' mc ms := by
  refine Met.ofW (cc := c) (maxL := n) (ret := none) hy rfl ?_
  intro p e s mm args below meth cd s₁ B hml hv
  obtain ⟨rfl, ⟨hP, hz, hK⟩, hZ⟩ := hv
  have hts := atoms_spec (ws := ws_ y c n none) B.pre
  have hc : CY w n0 (p, l, e, (headSpec (ws_ y c n none) rm).room, s, mm, av.toArray, below, meth, cd, 0, 0, MQ below (va_Qv (fun _ : Unit => True) (fun _ t => va_P w.1 vwCl (wlE n0 E' m') t.heap ∧ t.heap.size = n0 + m') (yA n0)) av.toArray s mc ms (yA n0)) c n y.cls rm :=
    ⟨B.exec, B.bytes, hml, findClass_of_methodNamed B.named, fun wd h => hts wd (List.mem_cons_of_mem _ h), hK, by show n0 ≤ s.heap.size; omega, rfl⟩
  have hb := body _ hc hZ (name_of_methodNamed B.named B.method).1 (fun pc L hd H locs ls hP' hz' hS' hl' =>
    W.vret B.exec B.bytes B.returns (fun t ht hW => ⟨⟨(), rfl, trivial, by show va_P _ _ _ t.heap ∧ t.heap.size = _; rw [ht]; exact ⟨hP', hz'⟩⟩, hS'.F ht⟩) hS'.2.2 hd B.notSynchronized)
  have hl := lv_entry av (n := n) hlen
  rw [lg_entry_eq]
  exact hb s.heap [] _ hP hz va_S.rf (hL ▸ hl)
theorem gPrez_blind {w : WT} {n0 m : Nat} {E : Nat → va_E} {av : List Value} : FrameBlind (va_Pc av (fun U => gPre w n0 E m U ∧ yZ n0 U)) := fun a U g mk q => ⟨q.1, ⟨q.2.1.1, q.2.1.2.1, va_K.moved (u := U) (U := U.calling g mk a) (Vm.Alike.refl U.vm) q.2.1.2.2⟩, yZ.same rfl rfl q.2.2⟩
theorem gPrez_at {w : WT} {n0 m : Nat} {E : Nat → va_E} {s : State} {H : Heap} {locs : List Loc} {av : List Value} (hP : va_P w.1 vwCl (wlE n0 E m) H) (hz : H.size = n0 + m) (hK : xK w s) (hZ : yZ n0 s) (hS : va_S (yA n0) s.heap H locs) : ∀ U : State, U.heap = H → s.WarmedH U.vm → va_Pc av (fun U => gPre w n0 E m U ∧ yZ n0 U) av.toArray U := fun U hU hW => ⟨rfl, ⟨by rw [hU]; exact hP, by rw [hU]; exact hz, va_K.moved hW.alike hK⟩, hZ.at hS hU hW⟩
theorem y_ctorz {w : WT} {n0 : Nat} {K : KT} {cc : ByteArray} {nL : Nat} {own : String} {rm : Room} {E : Nat → va_E} {m ce sl pc : Nat} {L : List (Nat × Value)} {st : List Value} (hc : CY w n0 K cc nL own rm) (hZ : yZ n0 (ks K)) {y : MethodName} {bytes : ByteArray} {maxL n index : Nat} {rm' : Room} (hv : IW own index y bytes maxL n) (hname : y.name = "<init>") {a : Nat} (As : List Value) {E' : Nat → va_E} {m' mc ms : Nat} (hM : Mcz w (kl K) y bytes maxL rm' (.ref (n0 + a) :: As) n0 E m E' m' mc ms) (hn : As.length = n) (hcat : (st.map fun v => v.category).sum ≤ 8) (hz9 : rm'.cells = mc) (hs9 : rm'.slots = ms) (hR : rm'.frames + 1 ≤ rm.frames ∧ 8 + (maxL + 11) + rm'.locals ≤ rm.locals) (hcells : ce + mc ≤ rm.cells) (hslots : sl + ms ≤ rm.slots) (hd : decode cc pc = .ok (.invokespecial index, 3)) {st0 : List Value} (hst : st0 = As.reverse ++ .ref (n0 + a) :: st) (kk : YY w n0 K nL E' m' (ce + mc) (sl + ms) (pc + 3) L st) : YY w n0 K nL E m ce sl pc L st0 := by
  intro H locs ls hP hz hS hl
  subst hst
  have hml : CallFix (kp K) (km K) (kco K) cc nL (ks K) (ka K) AW own := ⟨hc.1, hc.2.1, hc.2.2.1, hc.2.2.2.1, hc.2.2.2.2.1⟩
  have hcw : CallB (kR K) (ks K) (ka K) own index y bytes maxL none (ws_ y bytes maxL none) rm' mc ms n :=
    callB_of n hc.2.2.2.2.1 (ws_good hv.1) rfl hz9 hs9 (hc.2.2.2.2.1 _ hv.2.2.2.1) (hc.2.2.2.2.1 _ hv.2.1) hv.2.2.2.2 (by rw [hc.2.2.2.2.2.2.2]; exact hR)
  exact va_callv (va_runI (As := As) (rest := st) hml hM ⟨hcw, hname, hc.2.2.2.2.1 _ hv.2.2.1⟩ ⟨gPrez_blind, gPrez_at hP hz hc.2.2.2.2.2.1 hZ hS⟩ rfl hn hl.1 rfl (lv_room hcat) hd (by rw [hc.2.2.2.2.2.2.2]; exact ⟨hcells, hslots⟩)) hS (fun q _ h => h) (fun q h => h) (fun u t H1 locs ht hvm hw hB hz1 hk1 hS1 => kk H1 locs ls (by rw [← ht]; exact hB.1) (by rw [← ht]; exact hB.2) hS1 hl)
theorem y_ctorN {w : WT} {n0 : Nat} {K : KT} {cc : ByteArray} {nL : Nat} {own : String} {rm : Room} {E : Nat → va_E} {m ce sl pc : Nat} {L : List (Nat × Value)} {st : List Value} (hc : CY w n0 K cc nL own rm) {y : MethodName} {host : String} {bytes : ByteArray} {maxL n index : Nat} {rm' : Room} (hv : JW y bytes maxL n) (hnl : va_Nw (.methodLinkNest own index y host) (ks K)) (hname : y.name = "<init>") {a : Nat} (As : List Value) {E' : Nat → va_E} {m' mc ms : Nat} (hM : Mc w (kl K) y bytes maxL rm' (.ref (n0 + a) :: As) n0 E m E' m' mc ms) (hn : As.length = n) (hcat : (st.map fun v => v.category).sum ≤ 8) (hz9 : rm'.cells = mc) (hs9 : rm'.slots = ms) (hR : rm'.frames + 1 ≤ rm.frames ∧ 8 + (maxL + 11) + rm'.locals ≤ rm.locals) (hcells : ce + mc ≤ rm.cells) (hslots : sl + ms ≤ rm.slots) (hd : decode cc pc = .ok (.invokespecial index, 3)) {st0 : List Value} (hst : st0 = As.reverse ++ .ref (n0 + a) :: st) (kk : YY w n0 K nL E' m' (ce + mc) (sl + ms) (pc + 3) L st) : YY w n0 K nL E m ce sl pc L st0 := by
  intro H locs ls hP hz hS hl
  subst hst
  have hml : CallFix (kp K) (km K) (kco K) cc nL (ks K) (ka K) AW own := ⟨hc.1, hc.2.1, hc.2.2.1, hc.2.2.2.1, hc.2.2.2.2.1⟩
  have hcw : va_CN (kR K) (ks K) (ka K) own index y host bytes maxL none (ws_ y bytes maxL none) rm' mc ms n :=
    va_cnB n hc.2.2.2.2.1 (ws_good hv.1) rfl hz9 hs9 hnl (hc.2.2.2.2.1 _ hv.2.2.1) hv.2.2.2 (by rw [hc.2.2.2.2.2.2.2]; exact hR)
  exact va_callv (va_runIN (As := As) (rest := st) hml hM ⟨hcw, hname, hc.2.2.2.2.1 _ hv.2.1⟩ ⟨gPre_blind, gPre_at hP hz hc.2.2.2.2.2.1⟩ rfl hn hl.1 rfl (lv_room hcat) hd (by rw [hc.2.2.2.2.2.2.2]; exact ⟨hcells, hslots⟩)) hS (fun q _ h => h) (fun q h => h) (fun u t H1 locs ht hvm hw hB hz1 hk1 hS1 => kk H1 locs ls (by rw [← ht]; exact hB.1) (by rw [← ht]; exact hB.2) hS1 hl)
theorem y_getsN {w : WT} {n0 : Nat} {K : KT} {cc : ByteArray} {nL : Nat} {own : String} {rm : Room} {E : Nat → va_E} {m ce sl pc : Nat} {L : List (Nat × Value)} {st : List Value} (hc : CY w n0 K cc nL own rm) {C n d ref host : String} {v : Value} {index : Nat} (hZ : va_Z C n d v (yA n0) (ks K) (ks K).heap) (hl : va_Nw (.fieldLinkNest own index ref n d host) (ks K)) (hsame : ∀ x, (ks K).fieldFound? C n d = some x → (ks K).fieldFound? ref n d = some x) (hd : decode cc pc = .ok (.getstatic index, 3)) (kk : YY w n0 K nL E m ce sl (pc + 3) L (v :: st)) : YY w n0 K nL E m ce sl pc L st := fun H locs ls hP hz hS hl2 =>
  va_getsN hc.1 hc.2.1 hZ hS hc.2.2.2.1 (va_Nw.use rfl hl) hsame hd (kk H locs ls hP hz hS hl2)
theorem y_copyT {w : WT} {n0 : Nat} {K : KT} {cc : ByteArray} {nL : Nat} {own : String} {rm : Room} {E : Nat → va_E} {m ce sl pc : Nat} {L : List (Nat × Value)} {st : List Value} (hc : CY w n0 K cc nL own rm) {index a t : Nat} (ha : a < m) {f g : Nat → Int32} {cA : ClassId} (t0 : Nat) (ht : (tysW w)[t0]? = some (cA, .int)) (hT : va_T .int t 4 (fun j => .int (f j)) (yA n0) (ks K) (ks K).heap) (hE : E a = .inl (cA, 4, .inl g)) (hl1 : Cond.methodLink own index arraycopyName ∈ AW) (hf : 1 ≤ rm.frames) (hlo : (st.map fun v => v.category).sum + (nativeFrameWords "java/lang/System" "arraycopy" 5 + 11) ≤ rm.locals) (hd : decode cc pc = .ok (.invokestatic index, 3)) (kk : YY w n0 K nL (updE E a (.inl (cA, 4, .inl (va_cpy f g 0 0 4)))) m ce sl (pc + 3) L st) : YY w n0 K nL E m ce sl pc L (.int 4 :: .int 0 :: .ref (n0 + a) :: .int 0 :: .ref t :: st) := by
  intro H locs ls hP hz hS hl T hT9 X
  obtain ⟨cell, g1, g2, g3, g4, g5, g6, g7⟩ := hT
  have gH : H[t]? = some cell := by rw [hS.2.1 t (Array.getElem?_eq_some_iff.mp g1).1 g7]; exact g1
  have hel := (wlE_get n0 E ha).trans (by rw [hE])
  have hc1 : H[n0 + a]? = some (vp_cell cA (4, .inl g)) := hP a _ hel
  obtain ⟨g20, k0, hk0, cm0, hkk0⟩ := g2
  have hK := hc.2.2.2.2.2.1
  obtain ⟨-, k1, hk1, cm1, hkk1⟩ := (hK.2 t0 _ ht).1 4 (fun j => .int (g j))
  obtain ⟨vm', X', step⟩ := X.arraycopy hc.1 hc.2.2.2.1 (hc.2.2.2.2.1 _ hl1) (hc.2.2.2.2.1 _ jm_copy.1) (hc.2.2.2.2.1 _ jm_copy.2.1) (hc.2.2.2.2.1 _ jm_copy.2.2) (src := t) (dst := n0 + a) (cs := cell) (cd := vp_cell cA (4, .inl g)) (srcPos := 0) (destPos := 0) (n := 4) (by rw [hT9]; exact gH) (by rw [hT9]; exact hc1)
    g20 (fun _ h => by cases h) g3 (fun h => by cases h) hk0 hk1 hkk0 hkk1 (by simp [refKind]) (by decide) (by decide) (by decide)
    (by show ¬ ((0 : Int) + 4 > (cell.slots.size : Int)); omega)
    (by show ¬ ((0 : Int) + 4 > ((arrV cA 4 (fun j => .int (g j))).slots.size : Int)); rw [arrV_size]; decide)
    (fun vm₁ _ i hi => by
      have hi4 : i < 4 := hi
      have e : cell.slots.getD ((0 : Int32).toNatClampNeg + i) .null = .int (f i) := by
        show cell.slots.getD (0 + i) .null = _
        rw [Nat.zero_add, Array.getD_eq_getD_getElem?, g6 i hi4]
        rfl
      refine ⟨?_, ?_⟩
      · rw [e]
        rfl
      · rw [e]
        exact trivial)
    (g := F0 (km K) pc ls (.int 4 :: .int 0 :: .ref (n0 + a) :: .int 0 :: .ref t :: st)) rfl (by rw [hc.2.2.1]; exact hl.1) (rest := st) rfl (by rw [hc.2.1]; exact hd) (by rw [hc.2.2.2.2.2.2.2]; exact hf) (by rw [hc.2.2.2.2.2.2.2]; show 2 * 0 + _ + _ ≤ _; omega)
  have es : cell.stretch 0 4 = (arrV cA 4 (fun j => .int (f j))).stretch 0 4 := by
    unfold Cell.stretch
    apply List.map_congr_left
    intro i hi
    have hi' := List.mem_range.mp hi
    rw [Array.getD_eq_getD_getElem?, Array.getD_eq_getD_getElem?, arrV_read _ _ (by omega), Nat.zero_add, g6 _ hi']
  have e1 : copied cell (vp_cell cA (4, .inl g)) 0 0 4 = vp_cell cA (4, .inl (va_cpy f g 0 0 4)) := by
    show (arrV cA 4 (fun j => .int (g j))).storeRun 0 (cell.stretch 0 4) = _
    rw [es]
    exact va_copied (fun z => .int z) cA cA f g (Nat.le_refl 4)
  rw [e1] at X' step
  have hlt : n0 + a < H.size := (Array.getElem?_eq_some_iff.mp hc1).1
  have hheap : ((T.setVm vm').setCell (n0 + a) (vp_cell cA (4, .inl (va_cpy f g 0 0 4)))).heap = H.setIfInBounds (n0 + a) (vp_cell cA (4, .inl (va_cpy f g 0 0 4))) := by rw [← hT9]; rfl
  have oq : ∀ q : Nat, q ≠ n0 + a → (H.setIfInBounds (n0 + a) (vp_cell cA (4, .inl (va_cpy f g 0 0 4))))[q]? = H[q]? := fun q hq => by simp [Array.getElem?_setIfInBounds, Ne.symm hq]
  have hP1 := hP.set (wlE_D n0 E m) hel (e := .inl (cA, 4, .inl (va_cpy f g 0 0 4))) (show (H.setIfInBounds (n0 + a) _)[n0 + a]? = some _ by simp [Array.getElem?_setIfInBounds, hlt]) oq
  rw [wlE_set n0 E ha] at hP1
  obtain ⟨t9, a1, b1⟩ := kk _ _ ls hP1 (by simp; exact hz) ⟨by simp; exact hS.1, fun q u1 u2 => by
      rw [oq q (fun e => u2 (by rw [e]; exact Nat.le_add_right _ _))]
      exact hS.2.1 q u1 u2, fun q hq => by
      rcases List.mem_append.mp hq with h | h
      · exact hS.2.2 q h
      · obtain ⟨z, -, hz9⟩ := List.mem_map.mp h
        rw [← hz9]
        exact Nat.le_add_right _ _⟩ hl _ hheap X'
  exact ⟨t9, step t9 a1, b1⟩
/-- E may be told anew, cell by cell -/
theorem y_castE {w : WT} {n0 : Nat} {K : KT} {nL : Nat} {E E2 : Nat → va_E} {m ce sl pc : Nat} {L : List (Nat × Value)} {st : List Value} (e : ∀ q, q < m → E q = E2 q) (kk : YY w n0 K nL E2 m ce sl pc L st) : YY w n0 K nL E m ce sl pc L st := by
  have h : wlE n0 E m = wlE n0 E2 m := by
    unfold wlE
    apply List.map_congr_left
    intro a ha
    rw [e a (List.mem_range.mp ha)]
  intro H locs ls hP
  rw [h] at hP
  exact kk H locs ls hP
/-- two entries that are told of by the same cells: the same, or arrays of references with the same places -/
def eqE (n0 q : Nat) (x y : va_E) : Prop := x = y ∨ ∃ (c : ClassId) (n : Nat) (f g : Nat → Option Nat), x = va_aq c n f ∧ y = va_aq c n g ∧ ∀ j, j < n → f j = g j
theorem arrV_eq {c : ClassId} {n : Nat} {f g : Nat → Value} (h : ∀ j, j < n → f j = g j) : arrV c n f = arrV c n g := by
  unfold arrV
  congr 1
  apply Array.ext
  · simp
  · intro i h1 h2
    simp
    exact h i (by simpa using h1)
theorem y_castQ {w : WT} {n0 : Nat} {K : KT} {nL : Nat} {E E2 : Nat → va_E} {m ce sl pc : Nat} {L : List (Nat × Value)} {st : List Value} (e : ∀ q, q < m → eqE n0 q (E q) (E2 q)) (kk : YY w n0 K nL E2 m ce sl pc L st) : YY w n0 K nL E m ce sl pc L st := by
  intro H locs ls hP
  refine kk H locs ls (fun k q hk => ?_)
  obtain ⟨hm, rfl⟩ := wlE_some hk
  have h1 := hP k _ (wlE_get n0 E hm)
  rcases e k hm with h | ⟨c, n, f, g, h2, h3, h4⟩
  · rw [← h]; exact h1
  · rw [h2] at h1
    rw [h3]
    have h5 : H[n0 + k]? = some (arrV c n (fun j => va_rf (f j))) := h1
    show H[n0 + k]? = some (arrV c n (fun j => va_rf (g j)))
    rw [h5, arrV_eq (fun j hj => by rw [h4 j hj])]
theorem y_imul {w : WT} {n0 : Nat} {K : KT} {cc : ByteArray} {nL : Nat} {own : String} {rm : Room} {E : Nat → va_E} {m ce sl pc : Nat} {L : List (Nat × Value)} {st : List Value} (hc : CY w n0 K cc nL own rm) {x y : Int32} (hd : decode cc pc = .ok (.imul, 1)) (kk : YY w n0 K nL E m ce sl (pc + 1) L (.int (x * y) :: st)) : YY w n0 K nL E m ce sl pc L (.int y :: .int x :: st) := fun H locs ls hP hz hS hl => lv_imul hc.1 hc.2.1 hd (kk H locs ls hP hz hS hl)
