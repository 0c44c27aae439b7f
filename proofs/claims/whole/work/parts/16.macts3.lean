theorem cp_at (src dst : Nat → Int32) (n i : Nat) (h : i < n) : cpRow src dst 0 n i = src i := by
  unfold cpRow
  rw [if_pos (by omega), Nat.sub_zero]
theorem cp_n (src dst : Nat → Int32) (n i : Nat) (h : n ≤ i) : cpRow src dst 0 n i = dst i := by
  unfold cpRow
  rw [if_neg (by omega)]
theorem cp_up0 (src dst : Nat → Int32) (n : Nat) : upd (cpRow src dst 0 n) n (src n) = cpRow src dst 0 (n + 1) := by
  have := cpRow_up src dst 0 n
  rw [Nat.zero_add] at this
  exact this
theorem PM_undo {G : GS} {m : Nat} (hR : MR G) (hm : aN (aOf G) = m + 1) (hn : aN (aOf G) ≤ 4) : PMq G (up1 (up2 G 239 2 (nI m)) 240 (cpRow (fun j => G 241 (354 * m + j)) (G 240) 0 354)) (tUndo (aOf G)) := by
  unfold tUndo
  rw [if_neg (by omega), hm, show m + 1 - 1 = m by omega]
  have h239 : ∀ i, i ≠ 2 → up2 G 239 2 (nI m) 239 i = G 239 i := fun i h => up2_i _ _ _ _ h
  have hN : (up2 G 239 2 (nI m) 239 2).toNatClampNeg = m := by rw [up2_s, nI_clamp (by omega)]
  have hL : (up2 G 239 2 (nI m) 239 6).toNatClampNeg = (G 239 6).toNatClampNeg := by rw [h239 6 (by omega)]
  refine ⟨⟨fun i hi => ?_, hN, fun i hi j hj => rfl, h239 4 (by omega), fun _ j _ => rfl, hL, fun i _ => rfl⟩, ⟨?_, ?_⟩, fun q hq => ?_⟩
  · exact (congrFun (up1_s (up2 G 239 2 (nI m)) 240 (cpRow (fun j => G 241 (354 * m + j)) (G 240) 0 354)) i).trans (cp_at _ _ _ _ hi)
  · show up2 G 239 2 (nI m) 239 2 = nI (up2 G 239 2 (nI m) 239 2).toNatClampNeg
    rw [hN, up2_s]
  · show up2 G 239 2 (nI m) 239 6 = nI (up2 G 239 2 (nI m) 239 6).toNatClampNeg
    rw [hL, h239 6 (by omega)]
    exact hR.2
  · rw [up1_n _ _ (by omega), up2_r _ _ _ (by omega)]
theorem PM_keep {G : GS} (hR : MR G) : PMq G (up2 (up1 G 242 (cpRow (G 240) (G 242) 0 354)) 239 4 1) (tKeep (aOf G)) := by
  have h239 : ∀ i, i ≠ 4 → up2 (up1 G 242 (cpRow (G 240) (G 242) 0 354)) 239 4 1 239 i = G 239 i := fun i h => by rw [up2_i _ _ _ _ h, up1_n _ _ (by omega)]
  refine ⟨⟨fun i hi => rfl, ?_, fun i hi j hj => rfl, up2_s (up1 G 242 (cpRow (G 240) (G 242) 0 354)) 239 4 1, fun _ j hj => ?_, ?_, fun i _ => rfl⟩, ⟨?_, ?_⟩, fun q hq => ?_⟩
  · show (up2 (up1 G 242 (cpRow (G 240) (G 242) 0 354)) 239 4 1 239 2).toNatClampNeg = _
    rw [h239 2 (by omega)]; rfl
  · exact (congrFun ((up2_r (up1 G 242 (cpRow (G 240) (G 242) 0 354)) 4 1 (show 242 ≠ 239 by omega)).trans (up1_s _ _ _)) j).trans (cp_at _ _ _ _ hj)
  · show (up2 (up1 G 242 (cpRow (G 240) (G 242) 0 354)) 239 4 1 239 6).toNatClampNeg = _
    rw [h239 6 (by omega)]; rfl
  · show up2 (up1 G 242 (cpRow (G 240) (G 242) 0 354)) 239 4 1 239 2 = nI (up2 (up1 G 242 (cpRow (G 240) (G 242) 0 354)) 239 4 1 239 2).toNatClampNeg
    rw [h239 2 (by omega)]; exact hR.1
  · show up2 (up1 G 242 (cpRow (G 240) (G 242) 0 354)) 239 4 1 239 6 = nI (up2 (up1 G 242 (cpRow (G 240) (G 242) 0 354)) 239 4 1 239 6).toNatClampNeg
    rw [h239 6 (by omega)]; exact hR.2
  · rw [up2_r _ _ _ (by omega), up1_n _ _ (by omega)]
theorem aPut_eq {G G' : GS} {A : AT} {f f' : Nat → Int32} (h : PMq G G' (aPut A f)) (hf : ∀ i, i < 354 → f i = f' i) : PMq G G' (aPut A f') := ⟨⟨fun i hi => (h.1.1 i hi).trans (hf i hi), h.1.2⟩, h.2⟩
set_option maxHeartbeats 4000000 in
set_option maxRecDepth 100000 in
theorem M_undo {w : WT} (hI : xI w) (l : Launch) (G : GS) (B : Nat) (hR : MR G) (hV : AV (aOf G) B) : Mi w l yX6_undo cX6_undo 2 (some .int) ⟨0, 0, 0, 0⟩ [.ref (w.2.2 239)] G (fun v9 G' => v9 = qUndo (aOf G) ∧ PMq G G' (tUndo (aOf G))) := by
  refine mk_i (L0 := [(0, .ref (w.2.2 239))]) hI (by decide +kernel) rfl (Nat.le_of_ble_eq_true rfl) (fun _ _ _ => rfl) (fun K hc hret => ?_)
  have hn : aN (aOf G) ≤ 4 := hV.1
  have h300 : G 240 300 = nI (dN (G 240)) := hV.2.1.1.2
  have hdN : dN (G 240) < 20 := hV.2.1.1.1
  have h303a : G 240 303 = nI (rN (G 240)) := hV.2.1.2.2.1.2
  have hrN : rN (G 240) ≤ 9 := hV.2.1.2.2.1.1
  have hsn : rSn (G 240) (cN (G 240)) := hV.2.1.2.2.2.2.1
  have hcN := hsn.1
  refine x_aload_n (pc := 0) hc dX6_undo_0 0 rfl ?_
  refine x_get (pc := 1) hc cfR kcX6 2 (by decide) fl_X6_33 rfl dX6_undo_1 ?_
  refine x_as (nI ((aN (aOf G)))) hR.1 ?_
  refine x_if_ne (pc := 4) hc dX6_undo_4 10 (by decide) (fun c4 => ?_) (fun c4 => ?_)
  · have c4 : ¬ (aN (aOf G)) = 0 := fun h9 => c4 ((nI_eq (a := (aN (aOf G))) (b := 0) (by omega) (by omega)).mpr h9)
    obtain ⟨m, hm⟩ : ∃ m, aN (aOf G) = m + 1 := ⟨aN (aOf G) - 1, by omega⟩
    refine x_aload_n (pc := 10) hc dX6_undo_10 0 rfl ?_
    refine x_dupr (pc := 11) hc dX6_undo_11 ?_
    refine x_get (pc := 12) hc cfR kcX6 2 (by decide) fl_X6_33 rfl dX6_undo_12 ?_
    refine x_as (nI (m + 1)) (hR.1.trans (congrArg nI hm)) ?_
    refine x_iconst (v := 1) (pc := 15) hc dX6_undo_15 (by decide) ?_
    refine x_isub (pc := 16) hc dX6_undo_16 ?_
    refine x_as (nI m) (nI_pred _) ?_
    refine x_puti (pc := 17) hc cfR kcX6 2 (by decide) fl_X6_33 (by decide) rfl (by simp [fX6]) rfl dX6_undo_17 ?_
    refine x_Gn (fun G1 eG1 => ?_)
    refine x_iconst (v := 0) (pc := 20) hc dX6_undo_20 (by decide) ?_
    refine x_istore_n (pc := 21) (L' := [(1, .int 0), (0, .ref (w.2.2 239))]) hc dX6_undo_21 (by decide) rfl ?_
    have loop22 : ∀ (n1 : Nat) (k : Nat), k ≤ 354 → 354 < k + n1 → XX w K 2 ((up1 (up2 G 239 2 (nI m)) 240 (cpRow (fun j => G 241 (354 * m + j)) (G 240) 0 k))) 22 [(1, .int (nI k)), (0, .ref (w.2.2 239))] [] := by
      intro n1
      induction n1 with
      | zero => intro k hk hf; omega
      | succ n1 ih =>
        intro k hk hf
        refine x_iload_n (pc := 22) hc dX6_undo_22 0 rfl ?_
        refine x_sipush (v := 354) (pc := 23) hc dX6_undo_23 (by decide) ?_
        refine x_icmp_ge (pc := 26) hc dX6_undo_26 56 (by decide) (fun c26 => ?_) (fun c26 => ?_)
        · have c26 : 354 ≤ k := (nI_leI (a := 354) (b := k) (by omega) (by omega)).mp c26
          refine x_aload_n (pc := 56) hc dX6_undo_56 1 rfl ?_
          refine x_get (pc := 57) hc cfR kcX6 2 (by decide) fl_X6_33 rfl dX6_undo_57 ?_
          refine x_as (nI m) (show up1 (up2 G 239 2 (nI m)) 240 _ 239 2 = _ from up2_s G 239 2 (nI m)) ?_
          exact hret _ _ _ _ dX6_undo_60 ⟨(by unfold qUndo; rw [if_neg c4, hm]; rfl), (by rw [show k = 354 by omega]; exact PM_undo hR hm hn)⟩
        · have c26 : ¬ 354 ≤ k := fun h9 => c26 ((nI_leI (a := 354) (b := k) (by omega) (by omega)).mpr h9)
          refine x_aload_n (pc := 29) hc dX6_undo_29 1 rfl ?_
          refine x_get (pc := 30) hc cfR kcX6 0 (by decide) fl_X6_7 rfl dX6_undo_30 ?_
          refine x_iload_n (pc := 33) hc dX6_undo_33 0 rfl ?_
          refine x_aload_n (pc := 34) hc dX6_undo_34 1 rfl ?_
          refine x_get (pc := 35) hc cfR kcX6 1 (by decide) fl_X6_13 rfl dX6_undo_35 ?_
          refine x_sipush (v := 354) (pc := 38) hc dX6_undo_38 (by decide) ?_
          refine x_aload_n (pc := 41) hc dX6_undo_41 1 rfl ?_
          refine x_get (pc := 42) hc cfR kcX6 2 (by decide) fl_X6_33 rfl dX6_undo_42 ?_
          refine x_as (nI m) (show up1 (up2 G 239 2 (nI m)) 240 _ 239 2 = _ from up2_s G 239 2 (nI m)) ?_
          refine x_imul (pc := 45) hc dX6_undo_45 ?_
          refine x_as (nI (354 * m)) (pk_mul _ _) ?_
          refine x_iload_n (pc := 46) hc dX6_undo_46 0 rfl ?_
          refine x_iadd (pc := 47) hc dX6_undo_47 ?_
          refine x_as (nI (354 * m + k)) (nI_add _ _) ?_
          refine x_iald (pc := 48) hc af1 (vp_in_nI (by omega) (by decide)) dX6_undo_48 ?_
          refine x_as ((up1 (up2 G 239 2 (nI m)) 240 (cpRow (fun j => G 241 (354 * m + j)) (G 240) 0 k)) 241 (354 * m + k)) (congrArg _ (nI_clamp (by omega))) ?_
          refine x_as (G 241 (354 * m + k)) rfl ?_
          refine x_iast (pc := 49) hc af0 (vp_in_nI (by omega) (by decide)) dX6_undo_49 ?_
          refine x_G (congrArg (fun q => up2 ((up1 (up2 G 239 2 (nI m)) 240 (cpRow (fun j => G 241 (354 * m + j)) (G 240) 0 k))) 240 q (G 241 (354 * m + k))) (nI_clamp (by omega))) ?_
          refine x_Gn (fun G2 eG2 => ?_)
          refine x_iinc (pc := 50) (L' := [(1, .int (nI (k + 1))), (0, .ref (w.2.2 239))]) hc dX6_undo_50 0 rfl (nI (k + 1)) (nI_1 _) (by decide) rfl ?_
          refine x_goto (pc := 53) hc dX6_undo_53 22 (by decide) ?_
          refine x_loc [0, 1] rfl ?_
          rw [eG2, up2_up1]
          have z8 := ih (k + 1) (by omega) (by omega)
          rw [← cp_up0] at z8
          exact z8
    refine x_loc [0, 1] rfl ?_
    have z8 := loop22 355 0 (by omega) (by omega)
    rw [cpRow_0] at z8
    rw [eG1]
    have z7 : up1 (up2 G 239 2 (nI m)) 240 (G 240) = up2 G 239 2 (nI m) := up1_self (up2 G 239 2 (nI m)) 240
    rw [z7] at z8
    exact z8
  · have c4 : (aN (aOf G)) = 0 := (nI_eq (a := (aN (aOf G))) (b := 0) (by omega) (by omega)).mp c4
    refine x_bipush (v := (-5)) (pc := 7) hc dX6_undo_7 (by decide) ?_
    exact hret _ _ _ _ dX6_undo_9 ⟨(by unfold qUndo; exact (if_pos c4).symm), (by unfold tUndo; rw [if_pos c4]; exact PMq_same hR (fun _ _ => rfl))⟩
set_option maxHeartbeats 4000000 in
set_option maxRecDepth 100000 in
theorem M_keep {w : WT} (hI : xI w) (l : Launch) (G : GS) (B : Nat) (hR : MR G) (hV : AV (aOf G) B) : Mi w l yX6_keep cX6_keep 2 (some .int) ⟨0, 0, 0, 0⟩ [.ref (w.2.2 239)] G (fun v9 G' => v9 = qKeep (aOf G) ∧ PMq G G' (tKeep (aOf G))) := by
  refine mk_i (L0 := [(0, .ref (w.2.2 239))]) hI (by decide +kernel) rfl (Nat.le_of_ble_eq_true rfl) (fun _ _ _ => rfl) (fun K hc hret => ?_)
  have hn : aN (aOf G) ≤ 4 := hV.1
  have h300 : G 240 300 = nI (dN (G 240)) := hV.2.1.1.2
  have hdN : dN (G 240) < 20 := hV.2.1.1.1
  have h303a : G 240 303 = nI (rN (G 240)) := hV.2.1.2.2.1.2
  have hrN : rN (G 240) ≤ 9 := hV.2.1.2.2.1.1
  have hsn : rSn (G 240) (cN (G 240)) := hV.2.1.2.2.2.2.1
  have hcN := hsn.1
  refine x_iconst (v := 0) (pc := 0) hc dX6_keep_0 (by decide) ?_
  refine x_istore_n (pc := 1) (L' := [(1, .int 0), (0, .ref (w.2.2 239))]) hc dX6_keep_1 (by decide) rfl ?_
  have loop2 : ∀ (n1 : Nat) (k : Nat), k ≤ 354 → 354 < k + n1 → XX w K 2 ((up1 G 242 (cpRow (G 240) (G 242) 0 k))) 2 [(1, .int (nI k)), (0, .ref (w.2.2 239))] [] := by
    intro n1
    induction n1 with
    | zero => intro k hk hf; omega
    | succ n1 ih =>
      intro k hk hf
      refine x_iload_n (pc := 2) hc dX6_keep_2 0 rfl ?_
      refine x_sipush (v := 354) (pc := 3) hc dX6_keep_3 (by decide) ?_
      refine x_icmp_ge (pc := 6) hc dX6_keep_6 27 (by decide) (fun c6 => ?_) (fun c6 => ?_)
      · have c6 : 354 ≤ k := (nI_leI (a := 354) (b := k) (by omega) (by omega)).mp c6
        refine x_aload_n (pc := 27) hc dX6_keep_27 1 rfl ?_
        refine x_iconst (v := 1) (pc := 28) hc dX6_keep_28 (by decide) ?_
        refine x_put (pc := 29) hc cfR kcX6 4 (by decide) fl_X6_122 (by decide) 1 rfl (by simp [fX6]) rfl rfl dX6_keep_29 ?_
        refine x_Gn (fun G1 eG1 => ?_)
        refine x_aload_n (pc := 32) hc dX6_keep_32 1 rfl ?_
        refine x_get (pc := 33) hc cfR kcX6 0 (by decide) fl_X6_7 rfl dX6_keep_33 ?_
        refine x_sipush (v := 353) (pc := 36) hc dX6_keep_36 (by decide) ?_
        refine x_as (nI 353) rfl ?_
        refine x_iald (pc := 39) hc af0 (vp_in_nI (by omega) (by decide)) dX6_keep_39 ?_
        refine x_as (G1 240 353) (congrArg _ (nI_clamp (by omega))) ?_
        refine x_as (G 240 353) (by rw [eG1]; rfl) ?_
        exact hret _ _ _ _ dX6_keep_40 ⟨rfl, (by rw [eG1, show k = 354 by omega]; exact PM_keep hR)⟩
      · have c6 : ¬ 354 ≤ k := fun h9 => c6 ((nI_leI (a := 354) (b := k) (by omega) (by omega)).mpr h9)
        refine x_aload_n (pc := 9) hc dX6_keep_9 1 rfl ?_
        refine x_get (pc := 10) hc cfR kcX6 3 (by decide) fl_X6_16 rfl dX6_keep_10 ?_
        refine x_iload_n (pc := 13) hc dX6_keep_13 0 rfl ?_
        refine x_aload_n (pc := 14) hc dX6_keep_14 1 rfl ?_
        refine x_get (pc := 15) hc cfR kcX6 0 (by decide) fl_X6_7 rfl dX6_keep_15 ?_
        refine x_iload_n (pc := 18) hc dX6_keep_18 0 rfl ?_
        refine x_iald (pc := 19) hc af0 (vp_in_nI (by omega) (by decide)) dX6_keep_19 ?_
        refine x_as ((up1 G 242 (cpRow (G 240) (G 242) 0 k)) 240 k) (congrArg _ (nI_clamp (by omega))) ?_
        refine x_as (G 240 k) rfl ?_
        refine x_iast (pc := 20) hc af2 (vp_in_nI (by omega) (by decide)) dX6_keep_20 ?_
        refine x_G (congrArg (fun q => up2 ((up1 G 242 (cpRow (G 240) (G 242) 0 k))) 242 q (G 240 k)) (nI_clamp (by omega))) ?_
        refine x_Gn (fun G2 eG2 => ?_)
        refine x_iinc (pc := 21) (L' := [(1, .int (nI (k + 1))), (0, .ref (w.2.2 239))]) hc dX6_keep_21 0 rfl (nI (k + 1)) (nI_1 _) (by decide) rfl ?_
        refine x_goto (pc := 24) hc dX6_keep_24 2 (by decide) ?_
        refine x_loc [0, 1] rfl ?_
        rw [eG2, up2_up1]
        have z8 := ih (k + 1) (by omega) (by omega)
        rw [← cp_up0] at z8
        exact z8
  refine x_loc [0, 1] rfl ?_
  have z8 := loop2 355 0 (by omega) (by omega)
  rw [cpRow_0, up1_self] at z8
  exact z8
set_option maxHeartbeats 4000000 in
set_option maxRecDepth 100000 in
theorem M_restore {w : WT} (hI : xI w) (l : Launch) (G : GS) (B : Nat) (hR : MR G) (hV : AV (aOf G) B) : Mi w l yX6_restore cX6_restore 2 (some .int) ⟨1, 0, 0, 21⟩ [.ref (w.2.2 239)] G (fun v9 G' => v9 = qRestore (aOf G) ∧ PMq G G' (tRestore (aOf G))) := by
  refine mk_i (L0 := [(0, .ref (w.2.2 239))]) hI (by decide +kernel) rfl (Nat.le_of_ble_eq_true rfl) (fun _ _ _ => rfl) (fun K hc hret => ?_)
  have hn : aN (aOf G) ≤ 4 := hV.1
  have h300 : G 240 300 = nI (dN (G 240)) := hV.2.1.1.2
  have hdN : dN (G 240) < 20 := hV.2.1.1.1
  have h303a : G 240 303 = nI (rN (G 240)) := hV.2.1.2.2.1.2
  have hrN : rN (G 240) ≤ 9 := hV.2.1.2.2.1.1
  have hsn : rSn (G 240) (cN (G 240)) := hV.2.1.2.2.2.2.1
  have hcN := hsn.1
  refine x_aload_n (pc := 0) hc dX6_restore_0 0 rfl ?_
  refine x_get (pc := 1) hc cfR kcX6 4 (by decide) fl_X6_122 rfl dX6_restore_1 ?_
  refine x_if_ne (pc := 4) hc dX6_restore_4 10 (by decide) (fun c4 => ?_) (fun c4 => ?_)
  · refine x_aload_n (pc := 10) hc dX6_restore_10 0 rfl ?_
    refine x_callVv (pc := 11) hc cl_X6_79 cfR kcX6 [] (m_X6_remembers hI (kl K) G (aN (aOf G)) hn hR.1) rfl rfl (by simp [Value.category]) rfl rfl ⟨by decide, by decide⟩ dX6_restore_11 (fun Gc11 q11 => ?_)
    rw [q11]
    refine x_G (rem_gm G (aN (aOf G))) ?_
    refine x_iconst (v := 0) (pc := 14) hc dX6_restore_14 (by decide) ?_
    refine x_istore_n (pc := 15) (L' := [(1, .int 0), (0, .ref (w.2.2 239))]) hc dX6_restore_15 (by decide) rfl ?_
    have loop16 : ∀ (n1 : Nat) (k : Nat), k ≤ 354 → 354 < k + n1 → XX w K 2 (GM (remG G (aN (aOf G))) 0 (G 240) (cpRow (G 242) (G 240) 0 k) (G 244)) 16 [(1, .int (nI k)), (0, .ref (w.2.2 239))] [] := by
      intro n1
      induction n1 with
      | zero => intro k hk hf; omega
      | succ n1 ih =>
        intro k hk hf
        refine x_iload_n (pc := 16) hc dX6_restore_16 0 rfl ?_
        refine x_sipush (v := 354) (pc := 17) hc dX6_restore_17 (by decide) ?_
        refine x_icmp_ge (pc := 20) hc dX6_restore_20 41 (by decide) (fun c20 => ?_) (fun c20 => ?_)
        · have c20 : 354 ≤ k := (nI_leI (a := 354) (b := k) (by omega) (by omega)).mp c20
          refine x_aload_n (pc := 41) hc dX6_restore_41 1 rfl ?_
          refine x_get (pc := 42) hc cfR kcX6 0 (by decide) fl_X6_7 rfl dX6_restore_42 ?_
          refine x_sipush (v := 353) (pc := 45) hc dX6_restore_45 (by decide) ?_
          refine x_as (nI 353) rfl ?_
          refine x_iald (pc := 48) hc af0 (vp_in_nI (by omega) (by decide)) dX6_restore_48 ?_
          refine x_as ((cpRow (G 242) (G 240) 0 k) 353) (gm_ld (by omega) (by omega)) ?_
          exact hret _ _ _ _ dX6_restore_49 ⟨(by unfold qRestore; rw [if_neg c4]; exact cp_at _ _ _ _ (by omega)), (by
              unfold tRestore
              rw [if_neg c4]
              exact aPut_eq (PMq_gm hR hn) (fun i hi => cp_at _ _ _ _ (by omega)))⟩
        · have c20 : ¬ 354 ≤ k := fun h9 => c20 ((nI_leI (a := 354) (b := k) (by omega) (by omega)).mpr h9)
          refine x_aload_n (pc := 23) hc dX6_restore_23 1 rfl ?_
          refine x_get (pc := 24) hc cfR kcX6 0 (by decide) fl_X6_7 rfl dX6_restore_24 ?_
          refine x_iload_n (pc := 27) hc dX6_restore_27 0 rfl ?_
          refine x_aload_n (pc := 28) hc dX6_restore_28 1 rfl ?_
          refine x_get (pc := 29) hc cfR kcX6 3 (by decide) fl_X6_16 rfl dX6_restore_29 ?_
          refine x_iload_n (pc := 32) hc dX6_restore_32 0 rfl ?_
          refine x_iald (pc := 33) hc af2 (vp_in_nI (by omega) (by decide)) dX6_restore_33 ?_
          refine x_as ((GM (remG G (aN (aOf G))) 0 (G 240) (cpRow (G 242) (G 240) 0 k) (G 244)) 242 k) (congrArg _ (nI_clamp (by omega))) ?_
          refine x_as (G 242 k) (by show remG G _ 242 k = _; rw [remG_q _ _ _ (by omega) (by omega)]) ?_
          refine x_iast (pc := 34) hc af0 (vp_in_nI (by omega) (by decide)) dX6_restore_34 ?_
          refine x_G (gm_st (i := k) (by omega) (by omega)) ?_
          refine x_fn (fun z => GM (remG G (aN (aOf G))) 0 (G 240) z (G 244)) (fun f1 ef1 => ?_)
          refine x_iinc (pc := 35) (L' := [(1, .int (nI (k + 1))), (0, .ref (w.2.2 239))]) hc dX6_restore_35 0 rfl (nI (k + 1)) (nI_1 _) (by decide) rfl ?_
          refine x_goto (pc := 38) hc dX6_restore_38 16 (by decide) ?_
          refine x_loc [0, 1] rfl ?_
          rw [ef1, cp_up0]
          exact ih (k + 1) (by omega) (by omega)
    refine x_loc [0, 1] rfl ?_
    have z8 := loop16 355 0 (by omega) (by omega)
    rw [cpRow_0] at z8
    exact z8
  · refine x_bipush (v := (-5)) (pc := 7) hc dX6_restore_7 (by decide) ?_
    exact hret _ _ _ _ dX6_restore_9 ⟨(by unfold qRestore; exact (if_pos c4).symm), (by unfold tRestore; rw [if_pos c4]; exact PMq_same hR (fun _ _ => rfl))⟩
