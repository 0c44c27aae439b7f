/-- what the mean mistake of a row is -/
def MMp (f : Nat → Int32) (r : UInt32) : Prop := (f 353 = 0 ∧ r = FP.fconst0) ∨ (f 353 ≠ 0 ∧ alike32 r (FP.fdiv (FP.i2f (f 352)) (FP.i2f (f 353))) = true)
def MfD (w : WT) (l : Launch) (y : MethodName) (c : ByteArray) (n : Nat) (rm : Room) (av : List Value) (G : GS) (post : UInt32 → GS → Prop) : Prop :=
  MetD lw_cs l y (ws_ y c n (some .float)) rm (va_Pc av (xPre w G)) (va_Qf post (fun G' t => va_P w.1 vwCl (wl w G') t.heap) (xA w)) 0 0 (xA w)
theorem mk_f {w : WT} {l : Launch} {y : MethodName} {c : ByteArray} {n : Nat} {rm : Room} {av : List Value} {G : GS} {L0 : List (Nat × Value)} {post : UInt32 → GS → Prop} (hI : xI w) (hy : plainName y.cls = true) (hL : lv_args 0 av = L0) (hlen : (lg_sl av).length ≤ n)
    (body : ∀ K : KT, CX w K c n y.cls rm → (∀ (pc : Nat) (G' : GS) (L : List (Nat × Value)) (v : UInt32), decode c pc = .ok (.freturn, 1) → post v G' → XX w K n G' pc L [.float v]) →
      (∀ (pc : Nat) (G' : GS) (L : List (Nat × Value)) (f1 f2 : UInt32), decode c pc = .ok (.fdiv, 1) → decode c (pc + 1) = .ok (.freturn, 1) → (∀ r, alike32 r (FP.fdiv f1 f2) = true → post r G') → XX w K n G' pc L [.float f2, .float f1]) → XX w K n G 0 L0 []) : MfD w l y c n rm av G post := by
  refine MetD.ofW (cc := c) (maxL := n) (ret := some .float) hy rfl ?_
  intro p e s m args below meth cd s₁ B hml hv hd0
  obtain ⟨rfl, hP, hK, hN⟩ := hv
  have hts := atoms_spec (ws := ws_ y c n (some .float)) B.pre
  have hts2 : ∀ wd ∈ AW, wd.before av.toArray s = true := fun wd h => hts wd (List.mem_cons_of_mem _ h)
  have hc : CX w (p, l, e, (headSpec (ws_ y c n (some .float)) rm).room, s.setDrawn s.drawn, m, av.toArray, below, meth, cd, 0, 0, MQD lw_cs below (va_Qf post (fun G' t => va_P w.1 vwCl (wl w G') t.heap) (xA w)) av.toArray s 0 0 (xA w)) c n y.cls rm :=
    ⟨B.exec, B.bytes, hml, findClass_of_methodNamed B.named, dr_words hts2 _, hK, hI, hN, rfl, Nat.zero_le _, Nat.zero_le _⟩
  have hb := body _ hc (fun pc G' L v hd hp H locs ls hP' hS' hl' =>
    W.endD hd0 (W.fret B.exec B.bytes B.returns (fun t ht hW => ⟨⟨v, G', rfl, hp, by show va_P _ _ _ t.heap; rw [ht]; exact hP'⟩, hS'.F ht⟩) hS'.2.2 hd B.notSynchronized))
    (fun pc G' L f1 f2 hd hd2 hp H locs ls hP' hS' hl' => lv_fdiv_any hd0 lw_bits B.exec B.bytes hd (fun r d1 hal hd1 =>
      W.endD hd1 (W.fret B.exec B.bytes B.returns (fun t ht hW => ⟨⟨r, G', rfl, hp r hal, by show va_P _ _ _ t.heap; rw [ht]; exact hP'⟩, hS'.F ht⟩) hS'.2.2 hd2 B.notSynchronized)))
  have hl := lv_entry av (n := n) hlen
  rw [lg_entry_eq]
  exact hb s.heap [] _ hP va_S.rf (hL ▸ hl)
theorem x_i2f {w : WT} {K : KT} {cc : ByteArray} {nL : Nat} {own : String} {rm : Room} {G : GS} {pc : Nat} {L : List (Nat × Value)} {st : List Value} (hc : CX w K cc nL own rm) {x : Int32} (hd : decode cc pc = .ok (.i2f, 1)) (kk : XX w K nL G (pc + 1) L (.float (FP.i2f x) :: st)) : XX w K nL G pc L (.int x :: st) := fun H locs ls hP hS hl => lv_i2f hc.1 hc.2.1 hd (kk H locs ls hP hS hl)
theorem x_fc0 {w : WT} {K : KT} {cc : ByteArray} {nL : Nat} {own : String} {rm : Room} {G : GS} {pc : Nat} {L : List (Nat × Value)} {st : List Value} (hc : CX w K cc nL own rm) (hd : decode cc pc = .ok (.fconst 0, 1)) (kk : XX w K nL G (pc + 1) L (.float FP.fconst0 :: st)) : XX w K nL G pc L st := fun H locs ls hP hS hl => lv_fconst0 hc.1 hc.2.1 hd (kk H locs ls hP hS hl)
set_option maxHeartbeats 4000000 in
set_option maxRecDepth 100000 in
theorem C_meanMistake {w : WT} (hI : xI w) (l : Launch) (G : GS) (A : AT) (B : Nat) (hR : RC G A) (hV : AV A B) (hZ : AZ A) (hB : B + 1 < 2 ^ 30) : MfD w l yX5_meanMistake cX5_meanMistake 1 ⟨0, 0, 0, 0⟩ [.ref (w.2.2 0)] G (fun r G' => MMp (aF A) r ∧ PCq G G' A) := by
  refine mk_f (L0 := [(0, .ref (w.2.2 0))]) hI (by decide +kernel) rfl (Nat.le_of_ble_eq_true rfl) (fun K hc hret hdiv => ?_)
  obtain ⟨b, eb⟩ : ∃ b, b = stb (G 0 4) := ⟨_, rfl⟩
  obtain ⟨h1, h2, h3, h4, h5, h6, h7, h8⟩ := id hR
  rw [← eb] at h2
  have hb : isB b := by rw [eb]; exact h1.1.2.2.2.2
  have hlb := isB_lt hb
  have hS0 := h2
  obtain ⟨s1, ⟨t4, t5, t6, t7, t8, t9, t10, t11, t12⟩, s3, s4, ⟨y1, y2, y3, y4⟩, so⟩ := h2
  have hRV := hV.2.1
  obtain ⟨⟨d1, d2⟩, ⟨v1, v2, v3⟩, ⟨r1, r2⟩, ho, ⟨c1, c2, c3⟩, hb4⟩ := id hRV
  have hd20 := Nat.le_of_lt d1
  have hn4 := hV.1
  have u4 : G b 4 = nI (cN (aF A)) := t4.trans c2
  have u5 : G b 5 = nI (yN (aF A)) := t5.trans v2
  have u6 : G b 6 = nI (dN (aF A)) := t6.trans d2
  refine x_aload_n (pc := 0) hc dX5_meanMistake_0 0 rfl ?_
  refine x_get (pc := 1) hc cfM kcX5 4 (by decide) fl_X5_31 rfl dX5_meanMistake_1 ?_
  refine x_ar b eb.symm ?_
  refine x_get (pc := 4) hc (cfS hb) kcX3 7 (by decide) fl_X5_57 rfl dX5_meanMistake_4 ?_
  refine x_as (aF A 353) t7 ?_
  refine x_if_ne (pc := 7) hc dX5_meanMistake_7 12 (by decide) (fun c7 => ?_) (fun c7 => ?_)
  · refine x_aload_n (pc := 12) hc dX5_meanMistake_12 0 rfl ?_
    refine x_get (pc := 13) hc cfM kcX5 4 (by decide) fl_X5_31 rfl dX5_meanMistake_13 ?_
    refine x_ar b eb.symm ?_
    refine x_get (pc := 16) hc (cfS hb) kcX3 8 (by decide) fl_X5_210 rfl dX5_meanMistake_16 ?_
    refine x_as (aF A 352) t8 ?_
    refine x_i2f (pc := 19) hc dX5_meanMistake_19 ?_
    refine x_aload_n (pc := 20) hc dX5_meanMistake_20 0 rfl ?_
    refine x_get (pc := 21) hc cfM kcX5 4 (by decide) fl_X5_31 rfl dX5_meanMistake_21 ?_
    refine x_ar b eb.symm ?_
    refine x_get (pc := 24) hc (cfS hb) kcX3 7 (by decide) fl_X5_57 rfl dX5_meanMistake_24 ?_
    refine x_as (aF A 353) t7 ?_
    refine x_i2f (pc := 27) hc dX5_meanMistake_27 ?_
    exact hdiv _ _ _ _ _ dX5_meanMistake_28 dX5_meanMistake_29 (fun r hal => ⟨Or.inr ⟨c7, hal⟩, PC_same hR⟩)
  · refine x_fc0 (pc := 10) hc dX5_meanMistake_10 ?_
    exact hret _ _ _ _ dX5_meanMistake_11 ⟨Or.inl ⟨c7, rfl⟩, PC_same hR⟩
