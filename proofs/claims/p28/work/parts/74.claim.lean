set_option maxHeartbeats 4000000 in
set_option maxRecDepth 100000 in
theorem law_all {p : Program} {l : Launch} {e : Env} {s : State} {m : MethodId} {below : List Frame} {meth : Method} {c : Code} {b L : Nat} {xs : Nat → Int32} (hL : L ≤ 260) (hr : meth.sig.returnType = ret) (hlocks : meth.locks = false) {w : WT} (hI : xI w) (hlo : ∀ a, xA w a → s.heap.size ≤ a) (hd0 : s.drawn.sameBut s.drawn lw_cs) (hX : ∀ d, va_X b L xs (ks (KL p l e s m below meth c b d)) (ks (KL p l e s m below meth c b d)).heap) (hbl : ∀ d, b < (ks (KL p l e s m below meth c b d)).heap.size) (hbA : ¬ xA w b) (hc : ∀ d, CX w (KL p l e s m below meth c b d) cL_law 5 RL room_1) (hZ9 : ∀ d, xZ w (ks (KL p l e s m below meth c b d)) (ks (KL p l e s m below meth c b d)).heap) (D : Nat → Int32) : LX w (KL p l e s m below meth c b s.drawn) 5 A0 D 13 [(2, .ref (w.2.2 239)), (1, .ref (w.2.2 0)), (0, .ref b)] [] := by
  refine law_s1 hI hL (hX _) (hbl _) hbA (hc _) (hZ9 _) D (fun G h1 h2 => ?_)
  refine x_callf (pc := 29) hd0 (hc _) cl_L_104 cfM kcX5 (C_meanMistake hI l G A0 0 h1 LG_0.1.1 LG_0.1.2 (by omega)) (by simp [Value.category]) rfl rfl ⟨by decide, by decide⟩ dL_law_29 (fun r G1 d1 hp hd1 => ?_)
  obtain ⟨hm, h3, h4⟩ := hp
  have er : r = FP.fconst0 := by
    rcases hm with ⟨_, q⟩ | ⟨q, _⟩
    · exact q
    · exact absurd rfl q
  refine x_fc0 (pc := 32) (hc d1) dL_law_32 ?_
  refine x_fcmp (pc := 33) (hc d1) dL_law_33 ?_
  rw [er, f0_cmp]
  have h5 : G1 239 = D := (h4 239 (Nat.le_refl _)).trans h2
  refine law_s2 hI hL (hX d1) (hbl d1) hbA (hc d1) (hZ9 d1) (fun pc A' D' L' v hdec hv G' g1 g2 H locs ls hP hS hl => ?_) D G1 h3 h5
  subst hv
  refine va_forget (fun q hq => hlo _ (hS.2.2 q hq)) ?_
  exact lw_ret hd1 (hc d1).1 (hc d1).2.1 hr hlocks hdec
set_option maxHeartbeats 4000000 in
set_option maxRecDepth 100000 in
theorem whole_start {p : Program} {e : Env} {s : State} {m : MethodId} {below : List Frame} {meth : Method} {c : Code} (l : Launch) (hflags : l.flags = flags0) {b L : Nat} {xs : Nat → Int32} (hL : L ≤ 260) (C0 : lw_At p s m meth c b L xs) : W p l e room_1 s m #[Value.ref b] below meth c s.heap [] 0 0 (lw_Z below #[Value.ref b] s) (entryFrame m ([Value.ref b] : List Value).toArray 5) := by
  obtain ⟨hx, hb, hr, hml, hown, hts, hX, hbl, hlocks, hgv⟩ := id C0
  have hAW : ∀ wd ∈ AW, wd.before #[Value.ref b] s = true := fun wd h => hts wd (aw_tbl h)
  obtain ⟨w, hK, had⟩ := law_world hts
  have hI : xI w := law_xI had
  have hlo : ∀ a, xA w a → s.heap.size ≤ a := law_lo had
  have hN := law_xN hts
  have hY := law_yZ hts hgv
  have hZ := law_xZ hlo hts hgv
  have hd0 := Drawn.sameBut.refl s.drawn lw_cs
  have hA : aN0 w s.heap.size := fun q hq => by rw [had, ord_inv q hq]
  have hCX : ∀ d, CX w (KL p l e s m below meth c b d) cL_law 5 RL room_1 := fun d => ⟨hx, hb, hml, hown, dr_words hAW d, hK, hI, xN.same (u := s) rfl hN, rfl, Nat.le_refl _, Nat.le_refl _⟩
  refine W.base ?_
  have hc : CY w s.heap.size (KL p l e s m below meth c b s.drawn) cL_law 5 RL room_1 := ⟨hx, hb, hml, hown, dr_words hAW _, hK, Nat.le_refl _, rfl⟩
  have hYd : yZ s.heap.size (ks (KL p l e s m below meth c b s.drawn)) := yZ.same (u := s) rfl rfl hY
  have walk : YY w s.heap.size (KL p l e s m below meth c b s.drawn) 5 (fun _ => .inr (0, [])) 0 0 0 0 [(0, .ref b)] [] := by
    refine y_new (pc := 0) (ci := 5) (T := TX5) (N := 7) (fs := fA .null .null .null .null .null) hc uw_X5 tyX5 tyX5_ok kl_L_9 ib_X5 in_X5 rfl (fun j hj => by rcases (show j = 0 ∨ j = 1 ∨ j = 2 ∨ j = 3 ∨ j = 4 ∨ j = 5 ∨ j = 6 by omega) with rfl | rfl | rfl | rfl | rfl | rfl | rfl <;> rfl) (Nat.le_of_ble_eq_true rfl) (Nat.le_of_ble_eq_true rfl) dL_law_0 ?_
    refine y_dupr (pc := 3) hc dL_law_3 ?_
    refine y_ctorz (pc := 4) hc hYd cl_L_95 rfl (a := 0) [] (c_X5_init l s.heap.size hA _ (updE_s _ _ _)) rfl (Nat.le_of_ble_eq_true rfl) rfl rfl ⟨(Nat.le_of_ble_eq_true rfl), (Nat.le_of_ble_eq_true rfl)⟩ (Nat.le_of_ble_eq_true rfl) (Nat.le_of_ble_eq_true rfl) dL_law_4 rfl ?_
    refine y_astore_n (pc := 7) (L' := [(1, .ref (s.heap.size + 0)), (0, .ref b)]) hc dL_law_7 (by decide) rfl ?_
    refine y_bipush (v := 52) (pc := 8) hc dL_law_8 (by decide) ?_
    refine y_newa (atype := .int) (pc := 10) hc ar_int rfl 0 (cA := w.2.1 0) rfl (N' := 52) (a0 := (52, .inl (fun _ => 0))) (fun cA => rfl) (by decide) (by decide) (Nat.le_of_ble_eq_true rfl) (Nat.le_of_ble_eq_true rfl) (Nat.le_of_ble_eq_true rfl) dL_law_10 ?_
    refine y_astore_n (pc := 12) (L' := [(2, .ref (s.heap.size + 239)), (1, .ref (s.heap.size + 0)), (0, .ref b)]) hc dL_law_12 (by decide) rfl ?_
    refine y_castE (E2 := EF w) (fun q hq => ?_) ?_
    · by_cases h : q = 239
      · subst h
        rw [updE_s]
        rfl
      · rw [updE_n _ _ h]
    intro H locs ls hP hz hS hl
    refine va_forget (fun q hq => hS.2.2 q hq) ?_
    refine W.widen (k := 600000) (n := 7302249) (Nat.le_of_ble_eq_true rfl) (Nat.le_of_ble_eq_true rfl) ?_
    have hP2 := EF_world (fun k _ => had k) hP
    have hS2 : va_S (xA w) s.heap H [] := ⟨hS.1, fun q hq _ => hS.2.1 q hq (Nat.not_le.mpr hq), fun q hq => absurd hq List.not_mem_nil⟩
    have e1 : w.2.2 239 = s.heap.size + 239 := by rw [had]; rfl
    have e0 : w.2.2 0 = s.heap.size + 0 := by rw [had]; rfl
    have hl2 : lv_has ls 5 [(2, .ref (w.2.2 239)), (1, .ref (w.2.2 0)), (0, .ref b)] := by
      rw [e1, e0]
      exact hl
    exact law_all hL hr hlocks hI hlo hd0 (fun _ => hX) (fun _ => hbl) (fun z => absurd (hlo b z) (Nat.not_le.mpr hbl)) hCX (fun _ => xZ.same (u := s) rfl rfl hZ) (G0 239) G0 RC_G0 rfl H [] ls hP2 hS2 hl2
  have hl := lv_entry ([.ref b]) (n := 5) (Nat.le_of_ble_eq_true rfl)
  rw [lg_entry_eq]
  exact walk s.heap [] _ (fun k q h => absurd (wlE_some h).1 (Nat.not_lt_zero k)) rfl va_S.rf hl
set_option maxHeartbeats 4000000 in
theorem lw_walk (l : Launch) (hflags : l.flags = flags0) (b : Addr) (xs : List Int32) : MetFree l x (headSpec (Jvm.Cond.code x code maxLocals ret :: tables_1) room_1) (lw_P b xs) (fun _ _ _ _ _ => True) lw_Q := by
  refine MetFree.of_bodyS (code := code) (maxLocals := maxLocals) (ret := ret) (by decide) ?_ ?_
  · intro args s m h hn
    obtain ⟨meth, c, h1, h2, h3, h4, h5, h6, -, -⟩ := Cond.code_spec hn (atoms_spec (ws := Jvm.Cond.code x code maxLocals ret :: tables_1) h _ List.mem_cons_self)
    exact ⟨meth, c, h1, h2, h3, h4, h5, h6⟩
  · intro p e s m args below meth c s₁ B hml0 hP _
    obtain ⟨rfl, hx, hbd, hgv⟩ := hP
    obtain ⟨scr, harrAt, hlist, hof, hsmall⟩ := hx
    obtain ⟨hcb, hkn, -, -⟩ := State.arrayAt?_spec harrAt
    have hown : s.vm.findClass R_law = some m.cls := findClass_of_methodNamed B.named
    have hts0 : ∀ c ∈ (Jvm.Cond.code x code maxLocals ret :: tables_1), c.before #[Value.ref b] s = true := atoms_spec (ws := Jvm.Cond.code x code maxLocals ret :: tables_1) B.pre
    have hts : ∀ w ∈ lw_tbl, w.before #[Value.ref b] s = true := k2_hts_sels lw_privs (fun w hw => hts0 w (List.mem_cons_of_mem _ hw)) lw_privs_ok
    have hml : c.maxLocals = 5 := B.maxLocals_eq (hts0 _ List.mem_cons_self)
    have X₀ : Stand p l e room_1 s m #[Value.ref b] below meth c s₁ [] 0 0 := Stand.of_body B
    have hh0 : s₁.heap = s.heap := by rw [B.state]; rfl
    have hsz : scr.slots.size = xs.length := by rw [← Array.length_toList, hlist, List.length_map]
    have hval : ∀ j : Nat, j < xs.length → scr.slots[j]? = some (.int (xs.getD j 0)) := fun j hj => by
      rw [← Array.getElem?_toList, hlist]
      simp [hj]
    have hbl : b < s.heap.size := (Array.getElem?_eq_some_iff.mp hcb).1
    have hX : va_X b xs.length (fun j => xs.getD j 0) s s.heap := ⟨scr, hcb, hof, hkn, hsz, hval⟩
    have K : W p l e room_1 s m #[Value.ref b] below meth c s₁.heap [] 0 0 (lw_Z below #[Value.ref b] s) (entryFrame m ([Value.ref b] : List Value).toArray 5) := by
      rw [hh0]
      exact whole_start l hflags hbd ⟨B.exec, B.bytes, B.returns, hml, hown, hts, hX, hbl, B.notSynchronized, hgv⟩
    obtain ⟨t, a1, o, b1, b2, b3⟩ := K s₁ rfl X₀
    exact ⟨t, o, a1, b1, b2, b3⟩
theorem lw_pre_spec {args : Array Value} {s : State} (h : (Jvm.Cond.and given_1 narrow_1).before args s = true) (hr : rest_1_c.before args s = true) : ∃ (b : Addr) (xs : List Int32), lw_P b xs args s := by
  have hs := flat_of_before _ h
  have hq := flat_of_before _ hr
  have hc : (Cond.count 1).before args s = true := hs _ (by decide +kernel)
  have harr : (Cond.arrayOf (.arg 0) .int).before args s = true := hs _ (by decide +kernel)
  have hle : (Cond.le (.length (.arg 0)) (.int 260)).before args s = true := hs _ (by decide +kernel)
  have hlen : (Cond.isInt (.length (.arg 0))).before args s = true := hq _ (by decide +kernel)
  have hall : (Cond.all (.arg 0) (.isInt (.elem (.arg 0) (.index 0)))).before args s = true := hq _ (by decide +kernel)
  obtain ⟨b, xs, hb, hx⟩ := State.ints_of_pre rfl harr hlen hall
  have hsm : xs.length < 2 ^ 31 := hx.choose_spec.2.2.2
  have hev : (Term.length (.arg 0)).eval args s none [] s = some (.int xs.length.toInt32) := hx.length_eval hb
  have hv := Cond.le_ints hev (show (Term.int 260).eval args s none [] s = some (.int 260) from rfl)
  have hd : xs.length.toInt32 ≤ 260 := by
    simpa [Cond.before, Cond.holds, hv] using hle
  have hN : xs.length ≤ 260 := (Int32.ofNat_le_ofNat hsm (by decide)).mp (show Int32.ofNat xs.length ≤ Int32.ofNat 260 from hd)
  exact ⟨b, xs, Cond.one_arg hc (show args[0]? = some (.ref b) from hb), hx, hN, h⟩
theorem lw_comes (l : Launch) (hflags : l.flags = flags0) : Comes l x (Jvm.Cond.code x code maxLocals ret :: tables_1) room_1 (fun tb e args s => Calls_1 tb e args s ∧ rest_1 tb e args s ∧ Pre_1 tb e args s)
    (fun _ _ args s o t => lw_Q args s o t) := by
  intro p e ha hc hk s m args below hf hfit hheap happ hpre
  obtain ⟨b, xs, hP⟩ := lw_pre_spec hpre.2.2 hpre.2.1
  obtain ⟨k, o, h1, h2, h3, hQ⟩ := lw_walk l hflags b xs p e ha hc hk s m args below hf ((Spec.applies_iff_loose hf).mp happ).1 hP trivial
  exact ⟨k, o, h1, h2, h3, hQ⟩
theorem lw_frame {s t : State} {o : Outcome} {args : Array Value} (h : State.butDraws s t lw_cs (fun t1 => Framed s o t1 [] 600000 7302249)) :
    State.butDraws s t [Jvm.Choice.named "NaN.bits"] (fun t1 => Framed s o t1 (fieldLocs frame_1_writes args s ++ arrayLocs frame_1_arrays args s ++ staticLocs frame_1_statics s) 600000 7302249) := h
theorem lw_limb (L : Cond) (hL : ∀ (args : Array Value) (s t : State), L.after args s (.returned (some (.int 1))) t = true) :
    ArmFor flags0 classFile x code maxLocals ret World_1 tables_1 room_1 Calls_1 rest_1 Pre_1
      (fun tb e a s o t => postC L tb e a s o t ∧ State.butDraws s t [Jvm.Choice.named "NaN.bits"] (fun t1 => Framed s o t1 (fieldLocs frame_1_writes a s ++ arrayLocs frame_1_arrays a s ++ staticLocs frame_1_statics s) 600000 7302249)) := by
  intro l hflags _ _ p e ha hc hk s m args below hf hfit hheap happ hpre
  obtain ⟨k, o, h1, h2, h3, rfl, hF⟩ := lw_comes l hflags p e ha hc hk s m args below hf hfit hheap happ hpre
  exact ⟨k, _, h1, h2, h3, hL args s _, lw_frame hF⟩
theorem i_vc : Claimed_1_1 ∧ Claimed_1_2 := ⟨lw_limb limb_1_1 (fun args s t => by simp [limb_1_1, Cond.after, Cond.holds, Cond.value]), lw_limb limb_1_2 (fun args s t => Cond.after_iff.mpr (by
  first | (rw [show limb_1_2 = Cond.eq .result (.int 1) from rfl, Cond.eq_ints (x := 1) (y := 1) rfl rfl]; simp; done) | (simp [limb_1_2, Cond.value, Term.eval]; done)))⟩
