theorem m1_m1 (x : Int32) : (-1 : Int32) - (-1 - x) = x := by grind
theorem sg_in {tx : Nat → Int32} {ln i : Nat} {v : Int32} (h : sg tx ln i = v) (hv : v ≠ -1) : i < ln := by
  unfold sg at h
  split at h
  · assumption
  · exact absurd h.symm hv
def qType (A : AT) (_c : Int32) : Int32 := if aL A = 60 then -3 else nI (aL A + 1)
def tType (A : AT) (c : Int32) : AT := if aL A = 60 then A else (aF A, aN A, aH A, aK A, aS A, aL A + 1, upd (aT A) (aL A) c)
def qClear (A : AT) : Int32 := nI (aL A)
def tClear (A : AT) : AT := (aF A, aN A, aH A, aK A, aS A, 0, aT A)
def qFault (A : AT) : Int32 := fFault (aT A) (aL A) 60 0
theorem PM_type {G : GS} {c : Int32} (hR : MR G) (hl : aL (aOf G) < 60) : PMq G (up2 (up2 G 243 (aL (aOf G)) c) 239 6 (nI (aL (aOf G) + 1))) (aF (aOf G), aN (aOf G), aH (aOf G), aK (aOf G), aS (aOf G), aL (aOf G) + 1, upd (aT (aOf G)) (aL (aOf G)) c) := by
  have h239 : ∀ i, i ≠ 6 → up2 (up2 G 243 (aL (aOf G)) c) 239 6 (nI (aL (aOf G) + 1)) 239 i = G 239 i := fun i h => by rw [up2_i _ _ _ _ h, up2_k _ _ _ _ (by omega)]
  have h6 : up2 (up2 G 243 (aL (aOf G)) c) 239 6 (nI (aL (aOf G) + 1)) 239 6 = nI (aL (aOf G) + 1) := up2_s _ _ _ _
  have hL : (up2 (up2 G 243 (aL (aOf G)) c) 239 6 (nI (aL (aOf G) + 1)) 239 6).toNatClampNeg = aL (aOf G) + 1 := by rw [h6, nI_clamp (by omega)]
  refine ⟨⟨fun i hi => rfl, congrArg Int32.toNatClampNeg (h239 2 (by omega)), fun i hi j hj => rfl, h239 4 (by omega), fun _ j hj => rfl, hL, fun i hi => ?_⟩, ⟨?_, ?_⟩, fun q hq => ?_⟩
  · exact congrFun ((up2_r (up2 G 243 (aL (aOf G)) c) 6 (nI (aL (aOf G) + 1)) (show 243 ≠ 239 by omega)).trans ((up2_1 _ _ _ _).symm ▸ up1_s G 243 _)) i
  · exact (h239 2 (by omega)).trans (hR.1.trans (congrArg (fun z : Int32 => nI z.toNatClampNeg) (h239 2 (by omega)).symm))
  · exact h6.trans (congrArg nI hL.symm)
  · rw [up2_r _ _ _ (by omega), up2_r _ _ _ (by omega)]
theorem PM_clear {G : GS} (hR : MR G) : PMq G (up2 G 239 6 0) (tClear (aOf G)) := by
  have h239 : ∀ i, i ≠ 6 → up2 G 239 6 0 239 i = G 239 i := fun i h => up2_i _ _ _ _ h
  have h6 : up2 G 239 6 0 239 6 = 0 := up2_s _ _ _ _
  refine ⟨⟨fun i hi => rfl, congrArg Int32.toNatClampNeg (h239 2 (by omega)), fun i hi j hj => rfl, h239 4 (by omega), fun _ j hj => rfl, congrArg Int32.toNatClampNeg h6, fun i hi => rfl⟩, ⟨?_, ?_⟩, fun q hq => ?_⟩
  · exact (h239 2 (by omega)).trans (hR.1.trans (congrArg (fun z : Int32 => nI z.toNatClampNeg) (h239 2 (by omega)).symm))
  · exact h6.trans ((show (0 : Int32) = nI (0 : Int32).toNatClampNeg from rfl).trans (congrArg (fun z : Int32 => nI z.toNatClampNeg) h6.symm))
  · exact up2_r _ _ _ (by omega)
set_option maxHeartbeats 4000000 in
set_option maxRecDepth 100000 in
theorem M_type {w : WT} (hI : xI w) (l : Launch) (G : GS) (c : Int32) (B : Nat) (hR : MR G) (hV : AV (aOf G) B) : Mi w l yX6_type cX6_type 2 (some .int) ⟨0, 0, 0, 0⟩ [.ref (w.2.2 239), .int c] G (fun v9 G' => v9 = qType (aOf G) c ∧ PMq G G' (tType (aOf G) c)) := by
  refine mk_i (L0 := [(0, .ref (w.2.2 239)), (1, .int c)]) hI (by decide +kernel) rfl (Nat.le_of_ble_eq_true rfl) (fun _ _ _ => rfl) (fun K hc hret => ?_)
  have hln : aL (aOf G) ≤ 60 := hV.2.2.2.2.2
  refine x_aload_n (pc := 0) hc dX6_type_0 0 rfl ?_
  refine x_get (pc := 1) hc cfR kcX6 6 (by decide) fl_X6_94 rfl dX6_type_1 ?_
  refine x_as (nI ((aL (aOf G)))) hR.2 ?_
  refine x_bipush (v := 60) (pc := 4) hc dX6_type_4 (by decide) ?_
  refine x_icmp_ne (pc := 6) hc dX6_type_6 12 (by decide) (fun c6 => ?_) (fun c6 => ?_)
  · have c6 : ¬ (aL (aOf G)) = 60 := fun h9 => c6 ((nI_eq (a := (aL (aOf G))) (b := 60) (by omega) (by omega)).mpr h9)
    refine x_aload_n (pc := 12) hc dX6_type_12 0 rfl ?_
    refine x_get (pc := 13) hc cfR kcX6 5 (by decide) fl_X6_19 rfl dX6_type_13 ?_
    refine x_aload_n (pc := 16) hc dX6_type_16 0 rfl ?_
    refine x_get (pc := 17) hc cfR kcX6 6 (by decide) fl_X6_94 rfl dX6_type_17 ?_
    refine x_as (nI ((aL (aOf G)))) hR.2 ?_
    refine x_iload_n (pc := 20) hc dX6_type_20 1 rfl ?_
    refine x_iast (pc := 21) hc af3 (vp_in_nI (by omega) (by decide)) dX6_type_21 ?_
    refine x_G (congrArg (fun q => up2 G 243 q c) (nI_clamp (by omega))) ?_
    refine x_Gn (fun G1 eG1 => ?_)
    refine x_aload_n (pc := 22) hc dX6_type_22 0 rfl ?_
    refine x_dupr (pc := 23) hc dX6_type_23 ?_
    refine x_get (pc := 24) hc cfR kcX6 6 (by decide) fl_X6_94 rfl dX6_type_24 ?_
    refine x_as (nI ((aL (aOf G)))) (by rw [eG1, up2_k _ _ _ _ (by omega)]; exact hR.2) ?_
    refine x_iconst (v := 1) (pc := 27) hc dX6_type_27 (by decide) ?_
    refine x_iadd (pc := 28) hc dX6_type_28 ?_
    refine x_as (nI ((aL (aOf G)) + 1)) (nI_add _ _) ?_
    refine x_puti (pc := 29) hc cfR kcX6 6 (by decide) fl_X6_94 (by decide) rfl (by simp [fX6]) rfl dX6_type_29 ?_
    refine x_Gn (fun G2 eG2 => ?_)
    refine x_aload_n (pc := 32) hc dX6_type_32 0 rfl ?_
    refine x_get (pc := 33) hc cfR kcX6 6 (by decide) fl_X6_94 rfl dX6_type_33 ?_
    refine x_as (nI ((aL (aOf G)) + 1)) (by rw [eG2]; exact up2_s _ _ _ _) ?_
    exact hret _ _ _ _ dX6_type_36 ⟨(by unfold qType; rw [if_neg c6]), (by unfold tType; rw [if_neg c6, eG2, eG1]; exact PM_type hR (by omega))⟩
  · have c6 : (aL (aOf G)) = 60 := (nI_eq (a := (aL (aOf G))) (b := 60) (by omega) (by omega)).mp c6
    refine x_bipush (v := (-3)) (pc := 9) hc dX6_type_9 (by decide) ?_
    exact hret _ _ _ _ dX6_type_11 ⟨(by unfold qType; exact (if_pos c6).symm), (by unfold tType; rw [if_pos c6]; exact PMq_same hR (fun _ _ => rfl))⟩
set_option maxHeartbeats 4000000 in
set_option maxRecDepth 100000 in
theorem M_clearText {w : WT} (hI : xI w) (l : Launch) (G : GS) (B : Nat) (hR : MR G) (hV : AV (aOf G) B) : Mi w l yX6_clearText cX6_clearText 2 (some .int) ⟨0, 0, 0, 0⟩ [.ref (w.2.2 239)] G (fun v9 G' => v9 = qClear (aOf G) ∧ PMq G G' (tClear (aOf G))) := by
  refine mk_i (L0 := [(0, .ref (w.2.2 239))]) hI (by decide +kernel) rfl (Nat.le_of_ble_eq_true rfl) (fun _ _ _ => rfl) (fun K hc hret => ?_)
  have hln : aL (aOf G) ≤ 60 := hV.2.2.2.2.2
  refine x_aload_n (pc := 0) hc dX6_clearText_0 0 rfl ?_
  refine x_get (pc := 1) hc cfR kcX6 6 (by decide) fl_X6_94 rfl dX6_clearText_1 ?_
  refine x_as (nI ((aL (aOf G)))) hR.2 ?_
  refine x_istore_n (pc := 4) (L' := [(1, .int (nI ((aL (aOf G))))), (0, .ref (w.2.2 239))]) hc dX6_clearText_4 (by decide) rfl ?_
  refine x_aload_n (pc := 5) hc dX6_clearText_5 1 rfl ?_
  refine x_iconst (v := 0) (pc := 6) hc dX6_clearText_6 (by decide) ?_
  refine x_puti (pc := 7) hc cfR kcX6 6 (by decide) fl_X6_94 (by decide) rfl (by simp [fX6]) rfl dX6_clearText_7 ?_
  refine x_Gn (fun G1 eG1 => ?_)
  refine x_iload_n (pc := 10) hc dX6_clearText_10 0 rfl ?_
  exact hret _ _ _ _ dX6_clearText_11 ⟨rfl, (by rw [eG1]; exact PM_clear hR)⟩
set_option maxHeartbeats 4000000 in
set_option maxRecDepth 100000 in
theorem m_X6_fault {w : WT} (hI : xI w) (l : Launch) (G : GS) (ln : Nat) (hln : ln ≤ 60) (hl : G 239 6 = nI ln) : Mi w l yX6_fault cX6_fault 4 (some .int) ⟨5, 0, 0, 110⟩ [.ref (w.2.2 239)] G (fun v9 G' => v9 = fFault (G 243) ln 60 0 ∧ G' = G) := by
  refine mk_i (L0 := [(0, .ref (w.2.2 239))]) hI (by decide +kernel) rfl (Nat.le_of_ble_eq_true rfl) (fun _ _ _ => rfl) (fun K hc hret => ?_)
  refine x_iconst (v := 0) (pc := 0) hc dX6_fault_0 (by decide) ?_
  refine x_istore_n (pc := 1) (L' := [(1, .int 0), (0, .ref (w.2.2 239))]) hc dX6_fault_1 (by decide) rfl ?_
  refine x_iconst (v := 0) (pc := 2) hc dX6_fault_2 (by decide) ?_
  refine x_istore_n (pc := 3) (L' := [(2, .int 0), (1, .int 0), (0, .ref (w.2.2 239))]) hc dX6_fault_3 (by decide) rfl ?_
  have loop4 : ∀ (n1 : Nat) (k pl : Nat), k ≤ 60 → 60 < k + n1 → pl ≤ 60 → fFault (G 243) ln 60 0 = fFault (G 243) ln (60 - k) pl → XX w K 4 G 4 [(2, .int (nI k)), (1, .int (nI pl)), (0, .ref (w.2.2 239))] [] := by
    intro n1
    induction n1 with
    | zero => intro k pl hk hf hp hF; omega
    | succ n1 ih =>
      intro k pl hk hf hp hF
      refine x_iload_n (pc := 4) hc dX6_fault_4 0 rfl ?_
      refine x_bipush (v := 60) (pc := 5) hc dX6_fault_5 (by decide) ?_
      refine x_icmp_ge (pc := 7) hc dX6_fault_7 57 (by decide) (fun c7 => ?_) (fun c7 => ?_)
      · have c7 : 60 ≤ k := (nI_leI (a := 60) (b := k) (by omega) (by omega)).mp c7
        refine x_bipush (v := (-5)) (pc := 57) hc dX6_fault_57 (by decide) ?_
        exact hret _ _ _ _ dX6_fault_59 ⟨(by rw [hF, show 60 - k = 0 by omega]; rfl), rfl⟩
      · have c7 : ¬ 60 ≤ k := fun h9 => c7 ((nI_leI (a := 60) (b := k) (by omega) (by omega)).mpr h9)
        refine x_aload_n (pc := 10) hc dX6_fault_10 2 rfl ?_
        refine x_iload_n (pc := 11) hc dX6_fault_11 1 rfl ?_
        refine x_callVi (pc := 12) hc cl_X6_109 cfR kcX6 [.int (nI pl)] (m_X6_dayEnd hI (kl K) G pl ln hln hl (by omega)) rfl rfl (by simp [Value.category]) rfl rfl ⟨by decide, by decide⟩ dX6_fault_12 (fun r12 Gc12 q12 => ?_)
        obtain ⟨er12, eGc12⟩ := q12
        rw [eGc12]
        subst er12
        obtain ⟨b15, e15, hw15⟩ : ∃ b e, dEnd (G 243) ln pl = (b, e) := ⟨_, _, rfl⟩
        have hb15 := dEnd_b _ _ _ hw15
        rw [hw15]
        cases b15 with
        | false =>
          refine x_as (-1 - nI e15) rfl ?_
          generalize hx15 : (-1 : Int32) - nI e15 = x15
          refine x_istore_n (pc := 15) (L' := [(3, .int x15), (2, .int (nI k)), (1, .int (nI pl)), (0, .ref (w.2.2 239))]) hc dX6_fault_15 (by decide) rfl ?_
          refine x_iload_n (pc := 16) hc dX6_fault_16 0 rfl ?_
          refine x_if_ge (pc := 17) hc dX6_fault_17 24 (by decide) (fun c17 => ?_) (fun c17 => ?_)
          · exact absurd (by rw [hx15]; exact c17) (enc_neg (n := e15) (by omega))
          · refine x_iconst (v := (-1)) (pc := 20) hc dX6_fault_20 (by decide) ?_
            refine x_iload_n (pc := 21) hc dX6_fault_21 0 rfl ?_
            refine x_isub (pc := 22) hc dX6_fault_22 ?_
            exact hret _ _ _ _ dX6_fault_23 ⟨(by rw [hF, show 60 - k = (59 - k) + 1 by omega]; unfold fFault; rw [hw15]; dsimp only; rw [← hx15, m1_m1]), rfl⟩
        | true =>
          refine x_as (nI e15) rfl ?_
          refine x_istore_n (pc := 15) (L' := [(3, .int (nI e15)), (2, .int (nI k)), (1, .int (nI pl)), (0, .ref (w.2.2 239))]) hc dX6_fault_15 (by decide) rfl ?_
          refine x_iload_n (pc := 16) hc dX6_fault_16 0 rfl ?_
          refine x_if_ge (pc := 17) hc dX6_fault_17 24 (by decide) (fun c17_1 => ?_) (fun c17_1 => ?_)
          · have c17_1 : 0 ≤ e15 := (nI_leI (a := 0) (b := e15) (by omega) (by omega)).mp c17_1
            refine x_iload_n (pc := 24) hc dX6_fault_24 0 rfl ?_
            refine x_aload_n (pc := 25) hc dX6_fault_25 3 rfl ?_
            refine x_get (pc := 26) hc cfR kcX6 6 (by decide) fl_X6_94 rfl dX6_fault_26 ?_
            refine x_as (nI ln) hl ?_
            refine x_icmp_ne (pc := 29) hc dX6_fault_29 35 (by decide) (fun c29 => ?_) (fun c29 => ?_)
            · have c29 : ¬ e15 = ln := fun h9 => c29 ((nI_eq (a := e15) (b := ln) (by omega) (by omega)).mpr h9)
              refine x_aload_n (pc := 35) hc dX6_fault_35 3 rfl ?_
              refine x_iload_n (pc := 36) hc dX6_fault_36 0 rfl ?_
              refine x_callVi (pc := 37) hc cl_X6_97 cfR kcX6 [.int (nI e15)] (m_X6_sign hI (kl K) G e15 ln hln hl (by omega)) rfl rfl (by simp [Value.category]) rfl rfl ⟨by decide, by decide⟩ dX6_fault_37 (fun r37 Gc37 q37 => ?_)
              obtain ⟨er37, eGc37⟩ := q37
              rw [eGc37]
              subst er37
              refine x_bipush (v := 59) (pc := 40) hc dX6_fault_40 (by decide) ?_
              refine x_icmp_eq (pc := 42) hc dX6_fault_42 47 (by decide) (fun c42 => ?_) (fun c42 => ?_)
              · refine x_iload_n (pc := 47) hc dX6_fault_47 0 rfl ?_
                refine x_iconst (v := 1) (pc := 48) hc dX6_fault_48 (by decide) ?_
                refine x_iadd (pc := 49) hc dX6_fault_49 ?_
                refine x_as (nI (e15 + 1)) (nI_add _ _) ?_
                refine x_istore_n (pc := 50) (L' := [(1, .int (nI (e15 + 1))), (3, .int (nI e15)), (2, .int (nI k)), (0, .ref (w.2.2 239))]) hc dX6_fault_50 (by decide) rfl ?_
                refine x_iinc (pc := 51) (L' := [(2, .int (nI (k + 1))), (1, .int (nI (e15 + 1))), (3, .int (nI e15)), (0, .ref (w.2.2 239))]) hc dX6_fault_51 2 rfl (nI (k + 1)) (nI_1 _) (by decide) rfl ?_
                refine x_goto (pc := 54) hc dX6_fault_54 4 (by decide) ?_
                refine x_loc [0, 1, 3] rfl ?_
                have e59 := sg_in c42 (by decide)
                have hF2 : fFault (G 243) ln (60 - k) pl = fFault (G 243) ln (60 - (k + 1)) (e15 + 1) := by
                  rw [show 60 - k = (59 - k) + 1 by omega, show 60 - (k + 1) = 59 - k by omega]
                  conv => lhs; unfold fFault
                  rw [hw15]
                  dsimp only
                  rw [if_neg c29, if_pos c42]
                exact ih (k + 1) (e15 + 1) (by omega) (by omega) (by omega) (hF.trans hF2)
              · refine x_iload_n (pc := 45) hc dX6_fault_45 0 rfl ?_
                exact hret _ _ _ _ dX6_fault_46 ⟨(by rw [hF, show 60 - k = (59 - k) + 1 by omega]; unfold fFault; rw [hw15]; dsimp only; rw [if_neg c29, if_neg c42]), rfl⟩
            · have c29 : e15 = ln := (nI_eq (a := e15) (b := ln) (by omega) (by omega)).mp c29
              refine x_bipush (v := (-5)) (pc := 32) hc dX6_fault_32 (by decide) ?_
              exact hret _ _ _ _ dX6_fault_34 ⟨(by rw [hF, show 60 - k = (59 - k) + 1 by omega]; unfold fFault; rw [hw15]; dsimp only; rw [if_pos c29]), rfl⟩
          · exact absurd (nI_pos' (by omega)) c17_1
  refine x_loc [0, 1, 2] rfl ?_
  exact loop4 61 0 0 (by omega) (by omega) (by omega) rfl
theorem Mi.post {w : WT} {l : Launch} {y : MethodName} {c : ByteArray} {n : Nat} {ret : Option FieldType} {rm : Room} {av : List Value} {G : GS} {p q : Int32 → GS → Prop} (h : Mi w l y c n ret rm av G p) (hpq : ∀ v G', p v G' → q v G') : Mi w l y c n ret rm av G q := by
  intro pr e a1 a2 a3 s m args below hf happ hP hK
  obtain ⟨k, o, h1, h2, h3, ⟨⟨r, u, e1, e2, e3⟩, e4⟩, h5⟩ := h pr e a1 a2 a3 s m args below hf happ hP hK
  exact ⟨k, o, h1, h2, h3, ⟨⟨r, u, e1, hpq _ _ e2, e3⟩, e4⟩, h5⟩
theorem M_fault {w : WT} (hI : xI w) (l : Launch) (G : GS) (B : Nat) (hR : MR G) (hV : AV (aOf G) B) : Mi w l yX6_fault cX6_fault 4 (some .int) ⟨5, 0, 0, 110⟩ [.ref (w.2.2 239)] G (fun v9 G' => v9 = qFault (aOf G) ∧ PMq G G' (aOf G)) := by
  have h := m_X6_fault hI l G (aL (aOf G)) hV.2.2.2.2.2 hR.2
  exact Mi.post h (fun v9 G' h => ⟨h.1, by rw [h.2]; exact PMq_same hR (fun _ _ => rfl)⟩)
