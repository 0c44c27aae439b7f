theorem RC_txt {G G' : GS} {A : AT} (hR : RC G A) (h : ∀ q, q ≠ 1 → q ≠ 2 → G' q = G q) (l : Nat) (tx : Nat → Int32) (k1 : G' 1 1 = nI l) (k2 : ∀ i, i < l → G' 2 i = tx i) : RC G' (aF A, aN A, aH A, aK A, aS A, l, tx) := by
  obtain ⟨h1, h2, h3, h4, h5, h6, h7, h8⟩ := hR
  have e0 : G' 0 = G 0 := h 0 (by omega) (by omega)
  have e3 : G' 3 = G 3 := h 3 (by omega) (by omega)
  have ev : ∀ b, 5 ≤ b → gv G' b = gv G b := fun b hb => by
    funext c
    exact h (b + c) (by omega) (by omega)
  have hb := isB_lt h1.1.2.2.2.2
  refine ⟨?_, ?_, ?_, fun i hi => ?_, ?_, fun hk => ?_, ⟨k1, k2⟩, fun b hb2 k hk => ?_⟩
  · show SB (stb (G' 3 0)) (stb (G' 3 1)) (stb (G' 3 2)) (stb (G' 3 3)) (stb (G' 0 4))
    rw [e3, e0]; exact h1
  · rw [e0, ev _ hb.1]; exact h2
  · rw [e0]; exact h3
  · rw [e3]
    by_cases h9 : 5 ≤ stb (G 3 i)
    · rw [ev _ h9]; exact h4 i hi
    · exact absurd (show 5 ≤ stb (G 3 i) by unfold stb; omega) h9
  · rw [e0]; exact h5
  · rw [ev _ (by omega)]; exact h6 hk
  · have := isB_lt hb2
    rw [h _ (by omega) (by omega)]; exact h8 b hb2 k hk
theorem sg_c {tx tx' : Nat → Int32} {ln : Nat} (h : ∀ i, i < ln → tx i = tx' i) : sg tx ln = sg tx' ln := by
  funext i
  unfold sg
  by_cases h1 : i < ln
  · rw [if_pos h1, if_pos h1, h i h1]
  · rw [if_neg h1, if_neg h1]
theorem dg_c {tx tx' : Nat → Int32} {ln : Nat} (h : ∀ i, i < ln → tx i = tx' i) : dg tx ln = dg tx' ln := by
  funext i
  unfold dg
  rw [sg_c h]
theorem nEnd_c {tx tx' : Nat → Int32} {ln : Nat} (h : ∀ i, i < ln → tx i = tx' i) : nEnd tx ln = nEnd tx' ln := by
  funext pl lo hi
  unfold nEnd nTwo
  rw [dg_c h]
theorem numIn_c {tx tx' : Nat → Int32} {ln : Nat} (h : ∀ i, i < ln → tx i = tx' i) : numIn tx ln = numIn tx' ln := by
  funext pl e
  unfold numIn
  rw [dg_c h]
theorem wEnd_c {tx tx' : Nat → Int32} {ln : Nat} (h : ∀ i, i < ln → tx i = tx' i) : wEnd tx ln = wEnd tx' ln := by
  funext pl
  unfold wEnd
  rw [sg_c h, nEnd_c h]
theorem dEnd_c {tx tx' : Nat → Int32} {ln : Nat} (h : ∀ i, i < ln → tx i = tx' i) : dEnd tx ln = dEnd tx' ln := by
  funext pl
  unfold dEnd
  rw [wEnd_c h]
  cases wEnd tx' ln pl with
  | mk b e => cases b with
    | false => rfl
    | true =>
      dsimp only
      rw [sg_c h, nEnd_c h]
theorem dWarm_c {tx tx' : Nat → Int32} {ln : Nat} (h : ∀ i, i < ln → tx i = tx' i) : dWarm tx ln = dWarm tx' ln := by
  funext pl
  unfold dWarm
  rw [wEnd_c h, sg_c h, numIn_c h]
theorem dMany_c {tx tx' : Nat → Int32} {ln : Nat} (h : ∀ i, i < ln → tx i = tx' i) : dMany tx ln = dMany tx' ln := by
  funext pl
  unfold dMany
  rw [wEnd_c h, sg_c h, numIn_c h, dEnd_c h]
theorem fFault_c {tx tx' : Nat → Int32} {ln : Nat} (h : ∀ i, i < ln → tx i = tx' i) : ∀ n pl, fFault tx ln n pl = fFault tx' ln n pl
  | 0, _ => rfl
  | n + 1, pl => by
    unfold fFault
    rw [dEnd_c h]
    cases dEnd tx' ln pl with
    | mk b e => cases b with
      | false => rfl
      | true =>
        dsimp only
        rw [sg_c h, fFault_c h n (e + 1)]
theorem RC_undo {G : GS} {A : AT} {B m : Nat} (hR : RC G A) (hV : AV A B) (hm : aN A = m + 1) : RC (up2 (up2 (up2 G 0 5 (nI m)) 0 4 (G 3 m)) 3 m (G 0 4)) (aH A m, m, A.2.2) := by
  obtain ⟨h1, h2, h3, h4, h5, h6, h7, h8⟩ := hR
  have hn := hV.1
  have e0 : up2 (up2 (up2 G 0 5 (nI m)) 0 4 (G 3 m)) 3 m (G 0 4) 0 4 = G 3 m := by rw [up2_k _ _ _ _ (by omega), up2_s]
  have e3 : ∀ i, i ≠ m → up2 (up2 (up2 G 0 5 (nI m)) 0 4 (G 3 m)) 3 m (G 0 4) 3 i = G 3 i := fun i hi => by rw [up2_i _ _ _ _ hi, up2_k _ _ _ _ (by omega), up2_k _ _ _ _ (by omega)]
  have e3m : up2 (up2 (up2 G 0 5 (nI m)) 0 4 (G 3 m)) 3 m (G 0 4) 3 m = G 0 4 := up2_s _ _ _ _
  have eq : ∀ q, q ≠ 0 → q ≠ 3 → up2 (up2 (up2 G 0 5 (nI m)) 0 4 (G 3 m)) 3 m (G 0 4) q = G q := fun q a b => by rw [up2_r _ _ _ b, up2_r _ _ _ a, up2_r _ _ _ a]
  have ev : ∀ b, 5 ≤ b → gv (up2 (up2 (up2 G 0 5 (nI m)) 0 4 (G 3 m)) 3 m (G 0 4)) b = gv G b := fun b hb => by
    funext c
    exact eq (b + c) (by omega) (by omega)
  have h5s : ∀ x, 5 ≤ stb x := fun x => by unfold stb; omega
  refine ⟨?_, ?_, ?_, fun i hi => ?_, ?_, fun hk => ?_, ⟨?_, fun i hi => ?_⟩, fun b hb2 k hk => ?_⟩
  · show SB (stb (up2 (up2 (up2 G 0 5 (nI m)) 0 4 (G 3 m)) 3 m (G 0 4) 3 0)) (stb (up2 (up2 (up2 G 0 5 (nI m)) 0 4 (G 3 m)) 3 m (G 0 4) 3 1)) (stb (up2 (up2 (up2 G 0 5 (nI m)) 0 4 (G 3 m)) 3 m (G 0 4) 3 2)) (stb (up2 (up2 (up2 G 0 5 (nI m)) 0 4 (G 3 m)) 3 m (G 0 4) 3 3)) (stb (up2 (up2 (up2 G 0 5 (nI m)) 0 4 (G 3 m)) 3 m (G 0 4) 0 4))
    rw [e0]
    obtain ⟨⟨p1, p2, p3, p4, p5⟩, p6, p7⟩ := h1
    rcases (show m = 0 ∨ m = 1 ∨ m = 2 ∨ m = 3 by omega) with rfl | rfl | rfl | rfl
    · rw [e3m, e3 1 (by omega), e3 2 (by omega), e3 3 (by omega)]; exact ⟨⟨p5, p2, p3, p4, p1⟩, by omega, by omega⟩
    · rw [e3m, e3 0 (by omega), e3 2 (by omega), e3 3 (by omega)]; exact ⟨⟨p1, p5, p3, p4, p2⟩, by omega, by omega⟩
    · rw [e3m, e3 0 (by omega), e3 1 (by omega), e3 3 (by omega)]; exact ⟨⟨p1, p2, p5, p4, p3⟩, by omega, by omega⟩
    · rw [e3m, e3 0 (by omega), e3 1 (by omega), e3 2 (by omega)]; exact ⟨⟨p1, p2, p3, p5, p4⟩, by omega, by omega⟩
  · rw [e0, ev _ (h5s _)]; exact h4 m (by omega)
  · rw [up2_k _ _ _ _ (by omega), up2_i _ _ _ _ (by omega), up2_s]
  · have hi2 : i < m := hi
    rw [e3 i (by omega), ev _ (h5s _)]; exact h4 i (by omega)
  · rw [up2_k _ _ _ _ (by omega), up2_i _ _ _ _ (by omega), up2_i _ _ _ _ (by omega)]; exact h5
  · rw [ev _ (by omega)]; exact h6 hk
  · rw [eq 1 (by omega) (by omega)]; exact h7.1
  · rw [eq 2 (by omega) (by omega)]; exact h7.2 i hi
  · have := isB_lt hb2
    rw [eq _ (by omega) (by omega)]; exact h8 b hb2 k hk
theorem RC_keep {G G1 : GS} {A : AT} {B : Nat} (hR : RC G A) (hV : AV A B) (hc : cpI G G1 161 (stb (G 0 4)) relS) : RC (up2 G1 0 6 1) (tKeep A) := by
  obtain ⟨h1, h2, h3, h4, h5, h6, h7, h8⟩ := hR
  have hb := h1.1.2.2.2.2
  have hl := isB_lt hb
  have hlo : ∀ q, q < 161 ∨ 200 ≤ q → G1 q = G q := fun q hq => hc.2 q (by omega)
  have eq : ∀ q, q ≠ 0 → up2 G1 0 6 1 q = G1 q := fun q hq => up2_r _ _ _ hq
  have e3 : up2 G1 0 6 1 3 = G 3 := by rw [eq 3 (by omega), hlo 3 (by omega)]
  have e0 : ∀ i, i ≠ 6 → up2 G1 0 6 1 0 i = G 0 i := fun i hi => by rw [up2_i _ _ _ _ hi, hlo 0 (by omega)]
  have ev : ∀ b, isB b → b ≠ 161 → ∀ q, b ≤ q → q < b + 39 → up2 G1 0 6 1 q = G q := fun b hb2 hne q u v => by
    have := isB_ap hb2 isB_161 hne
    have := isB_lt hb2
    rw [eq q (by omega), hlo q (by omega)]
  refine ⟨?_, ?_, ?_, fun i hi => ?_, up2_s _ _ _ _, fun _ => ?_, ⟨?_, fun i hi => ?_⟩, fun b hb2 k hk => ?_⟩
  · show SB (stb (up2 G1 0 6 1 3 0)) (stb (up2 G1 0 6 1 3 1)) (stb (up2 G1 0 6 1 3 2)) (stb (up2 G1 0 6 1 3 3)) (stb (up2 G1 0 6 1 0 4))
    rw [e3, e0 4 (by omega)]; exact h1
  · rw [e0 4 (by omega)]
    exact Sim_blk (ev _ hb h1.2.2.2.2.2.2) hV.2.1 h2
  · rw [e0 5 (by omega)]; exact h3
  · have hi4 : i < 4 := by have := hV.1; have h9 : i < aN A := hi; omega
    have hs := SB_i h1 hi4
    rw [e3]
    exact Sim_blk (ev _ hs.1 hs.2.1) (hV.2.2.1 i hi) (h4 i hi)
  · refine Sim_congr (g := gv G (stb (G 0 4))) (fun c j hcl hr => ?_) hV.2.1.2.2.2.2.1.1 (Nat.le_of_lt hV.2.1.1.1) h2
    show up2 G1 0 6 1 (161 + c) j = G (stb (G 0 4) + c) j
    rw [eq _ (by omega), hc.1 c j hcl hr]
  · rw [eq 1 (by omega), hlo 1 (by omega)]; exact h7.1
  · rw [eq 2 (by omega), hlo 2 (by omega)]; exact h7.2 i hi
  · have := isB_lt hb2
    rw [eq _ (by omega)]
    by_cases e : b = 161
    · rw [e, hc.1 (35 + k) 2 (by omega) (by unfold relS; omega)]
      exact h8 _ hb k hk
    · have := isB_ap hb2 isB_161 e
      rw [hlo _ (by omega)]; exact h8 b hb2 k hk
set_option maxHeartbeats 4000000 in
set_option maxRecDepth 100000 in
theorem C_undo {w : WT} (hI : xI w) (l : Launch) (G : GS) (A : AT) (B : Nat) (hR : RC G A) (hV : AV A B) (hZ : AZ A) (hB : B + 1 < 2 ^ 30) : Mi w l yX5_undo cX5_undo 2 (some .int) ⟨0, 0, 0, 0⟩ [.ref (w.2.2 0)] G (fun v9 G' => v9 = qUndo A ∧ PCq G G' (tUndo A)) := by
  refine mk_i (L0 := [(0, .ref (w.2.2 0))]) hI (by decide +kernel) rfl (Nat.le_of_ble_eq_true rfl) (fun _ _ _ => rfl) (fun K hc hret => ?_)
  obtain ⟨b, eb⟩ : ∃ b, b = stb (G 0 4) := ⟨_, rfl⟩
  obtain ⟨h1, h2, h3, h4, h5, h6, h7, h8⟩ := id hR
  rw [← eb] at h2
  have hb : isB b := by rw [eb]; exact h1.1.2.2.2.2
  have hlb := isB_lt hb
  have hS0 := h2
  obtain ⟨s1, ⟨t4, t5, t6, t7, t8, t9, t10, t11, t12⟩, s3, s4, ⟨y1, y2, y3, y4⟩, so⟩ := h2
  have hRV := hV.2.1
  obtain ⟨⟨d1, d2⟩, ⟨v1, v2, v3⟩, ⟨r1, r2⟩, ho, ⟨c1, c2, c3⟩, hb4⟩ := id hRV
  have hd20 := Nat.le_of_lt d1
  have hn4 := hV.1
  have u4 : G b 4 = nI (cN (aF A)) := t4.trans c2
  have u5 : G b 5 = nI (yN (aF A)) := t5.trans v2
  have u6 : G b 6 = nI (dN (aF A)) := t6.trans d2
  refine x_aload_n (pc := 0) hc dX5_undo_0 0 rfl ?_
  refine x_get (pc := 1) hc cfM kcX5 5 (by decide) fl_X5_34 rfl dX5_undo_1 ?_
  refine x_as (nI (aN A)) h3 ?_
  refine x_if_ne (pc := 4) hc dX5_undo_4 10 (by decide) (fun c4 => ?_) (fun c4 => ?_)
  · have c4 : ¬ aN A = 0 := fun h9 => c4 ((nI_eq (a := aN A) (b := 0) (by omega) (by omega)).mpr h9)
    obtain ⟨m, hm⟩ : ∃ m, aN A = m + 1 := ⟨aN A - 1, by omega⟩
    refine x_aload_n (pc := 10) hc dX5_undo_10 0 rfl ?_
    refine x_dupr (pc := 11) hc dX5_undo_11 ?_
    refine x_get (pc := 12) hc cfM kcX5 5 (by decide) fl_X5_34 rfl dX5_undo_12 ?_
    refine x_as (nI (m + 1)) (by rw [h3, hm]) ?_
    refine x_iconst (v := 1) (pc := 15) hc dX5_undo_15 (by decide) ?_
    refine x_isub (pc := 16) hc dX5_undo_16 ?_
    refine x_as (nI m) (nI_pred _) ?_
    refine x_puti (pc := 17) hc cfM kcX5 5 (by decide) fl_X5_34 (by decide) rfl (by simp [fX5]) rfl dX5_undo_17 ?_
    refine x_Gn (fun G1 eG1 => ?_)
    refine x_aload_n (pc := 20) hc dX5_undo_20 0 rfl ?_
    refine x_get (pc := 21) hc cfM kcX5 4 (by decide) fl_X5_31 rfl dX5_undo_21 ?_
    refine x_ar b (by rw [eG1, up2_i _ _ _ _ (by omega), eb]) ?_
    refine x_astore_n (pc := 24) (L' := [(1, .ref (w.2.2 b)), (0, .ref (w.2.2 0))]) hc dX5_undo_24 (by decide) rfl ?_
    refine x_aload_n (pc := 25) hc dX5_undo_25 1 rfl ?_
    refine x_aload_n (pc := 26) hc dX5_undo_26 1 rfl ?_
    refine x_get (pc := 27) hc cfM kcX5 1 (by decide) fl_X5_18 rfl dX5_undo_27 ?_
    refine x_aload_n (pc := 30) hc dX5_undo_30 1 rfl ?_
    refine x_get (pc := 31) hc cfM kcX5 5 (by decide) fl_X5_34 rfl dX5_undo_31 ?_
    refine x_as (nI m) (by rw [eG1, up2_s]) ?_
    refine x_aald (pc := 34) hc rfH rfl (vp_in_nI (by omega) (by decide)) (stb (G 3 m)) (by rw [nI_clamp (by omega), eG1, up2_k _ _ _ _ (by omega)]) dX5_undo_34 ?_
    refine x_put (pc := 35) hc cfM kcX5 4 (by decide) fl_X5_31 (by decide) (G 3 m) rfl (by simp [fX5]) rfl rfl dX5_undo_35 ?_
    refine x_Gn (fun G2 eG2 => ?_)
    refine x_aload_n (pc := 38) hc dX5_undo_38 1 rfl ?_
    refine x_get (pc := 39) hc cfM kcX5 1 (by decide) fl_X5_18 rfl dX5_undo_39 ?_
    refine x_aload_n (pc := 42) hc dX5_undo_42 1 rfl ?_
    refine x_get (pc := 43) hc cfM kcX5 5 (by decide) fl_X5_34 rfl dX5_undo_43 ?_
    refine x_as (nI m) (by rw [eG2, up2_i _ _ _ _ (by omega), eG1, up2_s]) ?_
    refine x_aload_n (pc := 46) hc dX5_undo_46 0 rfl ?_
    refine x_hast (pc := 47) (x := (G 0 4)) hc hb eb.symm (vp_in_nI (by omega) (by decide)) dX5_undo_47 ?_
    refine x_G (congrArg (fun q => up2 G2 3 q ((G 0 4))) (nI_clamp (by omega))) ?_
    refine x_Gn (fun G3 eG3 => ?_)
    refine x_aload_n (pc := 48) hc dX5_undo_48 1 rfl ?_
    refine x_get (pc := 49) hc cfM kcX5 5 (by decide) fl_X5_34 rfl dX5_undo_49 ?_
    refine x_as (nI m) (by rw [eG3, up2_k _ _ _ _ (by omega), eG2, up2_i _ _ _ _ (by omega), eG1, up2_s]) ?_
    exact hret _ _ _ _ dX5_undo_52 ⟨(by unfold qUndo; rw [if_neg (by omega), show aN A - 1 = m by omega]), (by
        unfold tUndo
        rw [if_neg (by omega), show aN A - 1 = m by omega]
        refine ⟨?_, fun q hq => by rw [eG3, up2_r _ _ _ (by omega), eG2, up2_r _ _ _ (by omega), eG1, up2_r _ _ _ (by omega)]⟩
        rw [eG3, eG2, eG1]
        exact RC_undo hR hV (by omega))⟩
  · have c4 : aN A = 0 := (nI_eq (a := aN A) (b := 0) (by omega) (by omega)).mp c4
    refine x_bipush (v := (-5)) (pc := 7) hc dX5_undo_7 (by decide) ?_
    exact hret _ _ _ _ dX5_undo_9 ⟨(by unfold qUndo; rw [if_pos (by omega)]), (by unfold tUndo; rw [if_pos (by omega)]; exact PC_same hR)⟩
set_option maxHeartbeats 4000000 in
set_option maxRecDepth 100000 in
theorem C_keep {w : WT} (hI : xI w) (l : Launch) (G : GS) (A : AT) (B : Nat) (hR : RC G A) (hV : AV A B) (hZ : AZ A) (hB : B + 1 < 2 ^ 30) : Mi w l yX5_keep cX5_keep 1 (some .int) ⟨3, 0, 0, 73⟩ [.ref (w.2.2 0)] G (fun v9 G' => v9 = qKeep A ∧ PCq G G' (tKeep A)) := by
  refine mk_i (L0 := [(0, .ref (w.2.2 0))]) hI (by decide +kernel) rfl (Nat.le_of_ble_eq_true rfl) (fun _ _ _ => rfl) (fun K hc hret => ?_)
  obtain ⟨b, eb⟩ : ∃ b, b = stb (G 0 4) := ⟨_, rfl⟩
  obtain ⟨h1, h2, h3, h4, h5, h6, h7, h8⟩ := id hR
  rw [← eb] at h2
  have hb : isB b := by rw [eb]; exact h1.1.2.2.2.2
  have hlb := isB_lt hb
  have hS0 := h2
  obtain ⟨s1, ⟨t4, t5, t6, t7, t8, t9, t10, t11, t12⟩, s3, s4, ⟨y1, y2, y3, y4⟩, so⟩ := h2
  have hRV := hV.2.1
  obtain ⟨⟨d1, d2⟩, ⟨v1, v2, v3⟩, ⟨r1, r2⟩, ho, ⟨c1, c2, c3⟩, hb4⟩ := id hRV
  have hd20 := Nat.le_of_lt d1
  have hn4 := hV.1
  have u4 : G b 4 = nI (cN (aF A)) := t4.trans c2
  have u5 : G b 5 = nI (yN (aF A)) := t5.trans v2
  have u6 : G b 6 = nI (dN (aF A)) := t6.trans d2
  have hap := isB_ap hb isB_161 (fun z => h1.2.2.2.2.2.2 (by rw [← eb, z]))
  refine x_aload_n (pc := 0) hc dX5_keep_0 0 rfl ?_
  refine x_get (pc := 1) hc cfM kcX5 2 (by decide) fl_X5_23 rfl dX5_keep_1 ?_
  refine x_aload_n (pc := 4) hc dX5_keep_4 0 rfl ?_
  refine x_get (pc := 5) hc cfM kcX5 4 (by decide) fl_X5_31 rfl dX5_keep_5 ?_
  refine x_ar b eb.symm ?_
  refine x_callVv (pc := 8) hc cl_X5_148 (cfS isB4) kcX3 [.ref (w.2.2 b)] (m_X3_copyFrom hI (kl K) G 161 b isB_161 hb (fun z => h1.2.2.2.2.2.2 (by rw [← eb, ← z])) (fun k hk => h8 b hb k hk)) rfl rfl (by simp [Value.category]) rfl rfl ⟨by decide, by decide⟩ dX5_keep_8 (fun Gc8 q8 => ?_)
  have hcp := q8
  refine x_aload_n (pc := 11) hc dX5_keep_11 0 rfl ?_
  refine x_iconst (v := 1) (pc := 12) hc dX5_keep_12 (by decide) ?_
  refine x_put (pc := 13) hc cfM kcX5 6 (by decide) fl_X5_38 (by decide) 1 rfl (by simp [fX5]) rfl rfl dX5_keep_13 ?_
  refine x_Gn (fun G1 eG1 => ?_)
  refine x_aload_n (pc := 16) hc dX5_keep_16 0 rfl ?_
  refine x_get (pc := 17) hc cfM kcX5 4 (by decide) fl_X5_31 rfl dX5_keep_17 ?_
  refine x_ar b (by rw [eG1, up2_i _ _ _ _ (by omega), hcp.2 0 (by omega), eb]) ?_
  refine x_get (pc := 20) hc (cfS hb) kcX3 7 (by decide) fl_X5_57 rfl dX5_keep_20 ?_
  refine x_as (aF A 353) (by rw [eG1, up2_k _ _ _ _ (by omega), hcp.2 b (by omega)]; exact t7) ?_
  exact hret _ _ _ _ dX5_keep_23 ⟨rfl, by rw [eG1]; exact RC_keep hR hV (by rw [← eb]; exact hcp), fun q hq => by rw [eG1, up2_r _ _ _ (by omega), hcp.2 q (by omega)]⟩
set_option maxHeartbeats 4000000 in
set_option maxRecDepth 100000 in
theorem C_restore {w : WT} (hI : xI w) (l : Launch) (G : GS) (A : AT) (B : Nat) (hR : RC G A) (hV : AV A B) (hZ : AZ A) (hB : B + 1 < 2 ^ 30) : Mi w l yX5_restore cX5_restore 1 (some .int) ⟨4, 0, 0, 95⟩ [.ref (w.2.2 0)] G (fun v9 G' => v9 = qRestore A ∧ PCq G G' (tRestore A)) := by
  refine mk_i (L0 := [(0, .ref (w.2.2 0))]) hI (by decide +kernel) rfl (Nat.le_of_ble_eq_true rfl) (fun _ _ _ => rfl) (fun K hc hret => ?_)
  obtain ⟨b, eb⟩ : ∃ b, b = stb (G 0 4) := ⟨_, rfl⟩
  obtain ⟨h1, h2, h3, h4, h5, h6, h7, h8⟩ := id hR
  rw [← eb] at h2
  have hb : isB b := by rw [eb]; exact h1.1.2.2.2.2
  have hlb := isB_lt hb
  have hS0 := h2
  obtain ⟨s1, ⟨t4, t5, t6, t7, t8, t9, t10, t11, t12⟩, s3, s4, ⟨y1, y2, y3, y4⟩, so⟩ := h2
  have hRV := hV.2.1
  obtain ⟨⟨d1, d2⟩, ⟨v1, v2, v3⟩, ⟨r1, r2⟩, ho, ⟨c1, c2, c3⟩, hb4⟩ := id hRV
  have hd20 := Nat.le_of_lt d1
  have hn4 := hV.1
  have u4 : G b 4 = nI (cN (aF A)) := t4.trans c2
  have u5 : G b 5 = nI (yN (aF A)) := t5.trans v2
  have u6 : G b 6 = nI (dN (aF A)) := t6.trans d2
  refine x_aload_n (pc := 0) hc dX5_restore_0 0 rfl ?_
  refine x_get (pc := 1) hc cfM kcX5 6 (by decide) fl_X5_38 rfl dX5_restore_1 ?_
  refine x_as (aK A) h5 ?_
  refine x_if_ne (pc := 4) hc dX5_restore_4 10 (by decide) (fun c4 => ?_) (fun c4 => ?_)
  · have hk1 : aK A = 1 := by
      rcases hV.2.2.2.1 with z | z
      · exact absurd z c4
      · exact z
    have hVs := hV.2.2.2.2.1 hk1
    refine x_aload_n (pc := 10) hc dX5_restore_10 0 rfl ?_
    refine x_callVv (pc := 11) hc cl_X5_46 cfM kcX5 [] (m_X5_remember hI (kl K) G A B hR hV) rfl rfl (by simp [Value.category]) rfl rfl ⟨by decide, by decide⟩ dX5_restore_11 (fun Gc11 q11 => ?_)
    obtain ⟨gR, gU, gn, gN⟩ := q11
    have hg0 : Sim (gv Gc11 b) (aF A) := by
      have q := gR.2.1
      rw [gn, ← eb] at q
      exact q
    refine x_aload_n (pc := 14) hc dX5_restore_14 0 rfl ?_
    refine x_get (pc := 15) hc cfM kcX5 4 (by decide) fl_X5_31 rfl dX5_restore_15 ?_
    refine x_ar b (by rw [gn, eb]) ?_
    refine x_aload_n (pc := 18) hc dX5_restore_18 0 rfl ?_
    refine x_get (pc := 19) hc cfM kcX5 2 (by decide) fl_X5_23 rfl dX5_restore_19 ?_
    refine x_callVv (pc := 22) hc cl_X5_148 (cfS hb) kcX3 [.ref (w.2.2 161)] (m_X3_copyFrom hI (kl K) Gc11 b 161 hb isB_161 (fun z => h1.2.2.2.2.2.2 (by rw [← eb, z])) (fun k hk => gR.2.2.2.2.2.2.2 161 isB_161 k hk)) rfl rfl (by simp [Value.category]) rfl rfl ⟨by decide, by decide⟩ dX5_restore_22 (fun Gc22 q22 => ?_)
    have hcp := q22
    have hgs : Sim (gv Gc22 b) (aS A) := Sim_congr (fun c j hcl hr => hcp.1 c j hcl hr) hVs.2.2.2.2.1.1 (Nat.le_of_lt hVs.1.1) (gR.2.2.2.2.2.1 hk1)
    refine x_aload_n (pc := 25) hc dX5_restore_25 0 rfl ?_
    refine x_get (pc := 26) hc cfM kcX5 4 (by decide) fl_X5_31 rfl dX5_restore_26 ?_
    refine x_ar b (by rw [hcp.2 0 (by omega), gn, eb]) ?_
    refine x_get (pc := 29) hc (cfS hb) kcX3 7 (by decide) fl_X5_57 rfl dX5_restore_29 ?_
    refine x_as (aS A 353) hgs.2.1.2.2.2.1 ?_
    exact hret _ _ _ _ dX5_restore_32 ⟨(by
        unfold qRestore
        rw [if_neg (c4)]
        all_goals rfl), (by
        unfold tRestore
        rw [if_neg (c4)]
        exact (by rw [← GC_eta (G := Gc11) (b := b) (fun z hz => hcp.2 z hz)]; exact PC_put eb gR gn gU hV hVs hgs))⟩
  · refine x_bipush (v := (-5)) (pc := 7) hc dX5_restore_7 (by decide) ?_
    exact hret _ _ _ _ dX5_restore_9 ⟨(by
        unfold qRestore
        rw [if_pos (c4)]
        all_goals rfl), (by
        unfold tRestore
        rw [if_pos (c4)]
        exact PC_same hR)⟩
