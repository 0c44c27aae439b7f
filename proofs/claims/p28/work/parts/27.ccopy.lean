theorem ft_b {v : Int32} (h : v = 0 ∨ v = 1) : fits .boolean (.int v) = true := by rcases h with rfl | rfl <;> rfl
theorem up2_swap (G : GS) (a b j : Nat) (R1 R4 : Nat → Int32) (v : Int32) (h : a ≠ b) : up2 (up1 (up1 G a R1) b R4) a j v = up1 (up1 G a (upd R1 j v)) b R4 := by
  rw [up2_1, up1_n _ _ h, up1_s]
  funext q
  unfold up1
  by_cases h1 : q = a
  · rw [if_pos h1, if_neg (by omega), if_pos h1]
  · rw [if_neg h1, if_neg h1, if_neg h1]
set_option maxHeartbeats 4000000 in
set_option maxRecDepth 100000 in
theorem m_X4_beginBehind {w : WT} (hI : xI w) (l : Launch) (G : GS) (k e r : Nat) (t : Int32) (hk : isY k) (he : isY e) (hek : e + 5 ≤ k ∨ k + 5 ≤ e) (hr : r ≤ 9) : Mv w l yX4_beginBehind cX4_beginBehind 5 ⟨3, 0, 0, 72⟩ [.ref (w.2.2 k), .ref (w.2.2 e), .int (nI r), .int t] G (fun G' => G' = up2 (up1 (up1 G (k + 1) (bbRow (G (e + 1)) (G (e + 4)) (G (k + 1)) r t 20)) (k + 4) (zRow (G (k + 4)) 20)) k 4 0) := by
  refine mk_v (L0 := [(0, .ref (w.2.2 k)), (1, .ref (w.2.2 e)), (2, .int (nI r)), (3, .int t)]) hI (by decide +kernel) rfl (Nat.le_of_ble_eq_true rfl) (fun K hc hret => ?_)
  refine x_iconst (v := 0) (pc := 0) hc dX4_beginBehind_0 (by decide) ?_
  refine x_istore (pc := 1) (L' := [(4, .int 0), (0, .ref (w.2.2 k)), (1, .ref (w.2.2 e)), (2, .int (nI r)), (3, .int t)]) hc dX4_beginBehind_1 (by decide) rfl ?_
  have loop3 : ∀ (n1 : Nat) (j : Nat), j ≤ 20 → 20 < j + n1 → XX w K 5 ((up1 (up1 G (k + 1) (bbRow (G (e + 1)) (G (e + 4)) (G (k + 1)) r t j)) (k + 4) (zRow (G (k + 4)) j))) 3 [(4, .int (nI j)), (0, .ref (w.2.2 k)), (1, .ref (w.2.2 e)), (2, .int (nI r)), (3, .int t)] [] := by
    intro n1
    induction n1 with
    | zero => intro j hj hf; omega
    | succ n1 ih =>
      intro j hj hf
      refine x_iload (pc := 3) hc dX4_beginBehind_3 0 rfl ?_
      refine x_bipush (v := 20) (pc := 5) hc dX4_beginBehind_5 (by decide) ?_
      refine x_icmp_ge (pc := 7) hc dX4_beginBehind_7 49 (by decide) (fun c7 => ?_) (fun c7 => ?_)
      · have c7 : 20 ≤ j := (nI_leI (a := 20) (b := j) (by omega) (by omega)).mp c7
        refine x_aload_n (pc := 49) hc dX4_beginBehind_49 1 rfl ?_
        refine x_iconst (v := 0) (pc := 50) hc dX4_beginBehind_50 (by decide) ?_
        refine x_puti (pc := 51) hc (cfY hk) kcX4 4 (by decide) fl_X4_24 (by decide) rfl (by simp [fX4]) rfl dX4_beginBehind_51 ?_
        refine x_Gn (fun G1 eG1 => ?_)
        exact hret _ _ _ dX4_beginBehind_54 (by rw [eG1, show j = 20 by omega])
      · have c7 : ¬ 20 ≤ j := fun h9 => c7 ((nI_leI (a := 20) (b := j) (by omega) (by omega)).mpr h9)
        refine x_aload_n (pc := 10) hc dX4_beginBehind_10 1 rfl ?_
        refine x_get (pc := 11) hc (cfY hk) kcX4 0 (by decide) fl_X4_9 rfl dX4_beginBehind_11 ?_
        refine x_iload (pc := 14) hc dX4_beginBehind_14 0 rfl ?_
        refine x_aload_n (pc := 16) hc dX4_beginBehind_16 2 rfl ?_
        refine x_get (pc := 17) hc (cfY he) kcX4 0 (by decide) fl_X4_9 rfl dX4_beginBehind_17 ?_
        refine x_iload (pc := 20) hc dX4_beginBehind_20 0 rfl ?_
        refine x_iald (pc := 22) hc (afY he (i := 1) (by decide) (by decide)) (vp_in_nI (by omega) (by decide)) dX4_beginBehind_22 ?_
        refine x_as ((up1 (up1 G (k + 1) (bbRow (G (e + 1)) (G (e + 4)) (G (k + 1)) r t j)) (k + 4) (zRow (G (k + 4)) j)) (e + 1) j) (congrArg _ (nI_clamp (by omega))) ?_
        refine x_as (G (e + 1) j) (by rw [up1_n _ _ (by omega), up1_n _ _ (by omega)]) ?_
        refine x_aload_n (pc := 23) hc dX4_beginBehind_23 2 rfl ?_
        refine x_iload (pc := 24) hc dX4_beginBehind_24 0 rfl ?_
        refine x_iload_n (pc := 26) hc dX4_beginBehind_26 3 rfl ?_
        refine x_callVi (pc := 27) hc cl_X4_34 (cfY he) kcX4 [.int (nI j), .int (nI r)] (m_X4_meanByDays hI (kl K) ((up1 (up1 G (k + 1) (bbRow (G (e + 1)) (G (e + 4)) (G (k + 1)) r t j)) (k + 4) (zRow (G (k + 4)) j))) e j r he (by omega) (by omega) ) rfl rfl (by simp [Value.category]) rfl rfl ⟨by decide, by decide⟩ dX4_beginBehind_27 (fun r27 Gc27 q27 => ?_)
        obtain ⟨er27, eGc27⟩ := q27
        rw [eGc27]
        subst er27
        refine x_as (mean (G (e + 4)) j r) (by rw [up1_n _ _ (by omega), up1_n _ _ (by omega)]) ?_
        refine x_iload_n (pc := 30) hc dX4_beginBehind_30 4 rfl ?_
        refine x_callNi (pc := 31) hc cl_X4_38 hc.2.2.2.2.2.2.2.1.2.2.1 [.int (G (e + 1) j), .int (mean (G (e + 4)) j r), .int t] (m_X5_mended hI (kl K) ((up1 (up1 G (k + 1) (bbRow (G (e + 1)) (G (e + 4)) (G (k + 1)) r t j)) (k + 4) (zRow (G (k + 4)) j))) (G (e + 1) j) (mean (G (e + 4)) j r) t) rfl rfl (by simp [Value.category]) rfl rfl ⟨by decide, by decide⟩ dX4_beginBehind_31 (fun r31 Gc31 q31 => ?_)
        obtain ⟨er31, eGc31⟩ := q31
        rw [eGc31]
        subst er31
        refine x_iast (pc := 34) hc (afY hk (i := 1) (by decide) (by decide)) (vp_in_nI (by omega) (by decide)) dX4_beginBehind_34 ?_
        refine x_G (congrArg (fun q => up2 ((up1 (up1 G (k + 1) (bbRow (G (e + 1)) (G (e + 4)) (G (k + 1)) r t j)) (k + 4) (zRow (G (k + 4)) j))) (k + 1) q (bnd ((G (e + 1) j) + (mean (G (e + 4)) j r) * t / 100))) (nI_clamp (by omega))) ?_
        refine x_Gn (fun G2 eG2 => ?_)
        refine x_aload_n (pc := 35) hc dX4_beginBehind_35 1 rfl ?_
        refine x_get (pc := 36) hc (cfY hk) kcX4 3 (by decide) fl_X4_21 rfl dX4_beginBehind_36 ?_
        refine x_iload (pc := 39) hc dX4_beginBehind_39 0 rfl ?_
        refine x_iconst (v := 0) (pc := 41) hc dX4_beginBehind_41 (by decide) ?_
        refine x_iast (pc := 42) hc (afY hk (i := 4) (by decide) (by decide)) (vp_in_nI (by omega) (by decide)) dX4_beginBehind_42 ?_
        refine x_G (congrArg (fun q => up2 G2 (k + 4) q 0) (nI_clamp (by omega))) ?_
        refine x_Gn (fun G3 eG3 => ?_)
        refine x_iinc (pc := 43) (L' := [(4, .int (nI (j + 1))), (0, .ref (w.2.2 k)), (1, .ref (w.2.2 e)), (2, .int (nI r)), (3, .int t)]) hc dX4_beginBehind_43 0 rfl (nI (j + 1)) (nI_1 _) (by decide) rfl ?_
        refine x_goto (pc := 46) hc dX4_beginBehind_46 3 (by decide) ?_
        refine x_loc [0, 1, 2, 3, 4] rfl ?_
        have z8 := ih (j + 1) (by omega) (by omega)
        rw [← bbRow_up, ← zRow_up, ← up2_up1, ← up2_swap _ _ _ _ _ _ _ (by omega)] at z8
        rw [eG3, eG2]
        exact z8
  refine x_loc [0, 1, 2, 3, 4] rfl ?_
  have z8 := loop3 21 0 (by omega) (by omega)
  have z1 : bbRow (G (e + 1)) (G (e + 4)) (G (k + 1)) r t 0 = G (k + 1) := rfl
  have z2 : zRow (G (k + 4)) 0 = G (k + 4) := rfl
  rw [z1, z2, up1_self, up1_self] at z8
  exact z8
set_option maxHeartbeats 4000000 in
set_option maxRecDepth 100000 in
theorem m_X4_copyFrom {w : WT} (hI : xI w) (l : Launch) (G : GS) (k o : Nat) (hk : isY k) (ho : isY o) (hko : o + 5 ≤ k ∨ k + 5 ≤ o) : Mv w l yX4_copyFrom cX4_copyFrom 2 ⟨1, 0, 0, 30⟩ [.ref (w.2.2 k), .ref (w.2.2 o)] G (fun G' => (∀ i, 1 ≤ i → i ≤ 4 → ∀ j, j < 20 → G' (k + i) j = G (o + i) j) ∧ G' k 4 = G o 4 ∧ ∀ q, q < k ∨ k + 5 ≤ q → G' q = G q) := by
  refine mk_v (L0 := [(0, .ref (w.2.2 k)), (1, .ref (w.2.2 o))]) hI (by decide +kernel) rfl (Nat.le_of_ble_eq_true rfl) (fun K hc hret => ?_)
  refine x_aload_n (pc := 0) hc dX4_copyFrom_0 1 rfl ?_
  refine x_get (pc := 1) hc (cfY ho) kcX4 0 (by decide) fl_X4_9 rfl dX4_copyFrom_1 ?_
  refine x_iconst (v := 0) (pc := 4) hc dX4_copyFrom_4 (by decide) ?_
  refine x_aload_n (pc := 5) hc dX4_copyFrom_5 0 rfl ?_
  refine x_get (pc := 6) hc (cfY hk) kcX4 0 (by decide) fl_X4_9 rfl dX4_copyFrom_6 ?_
  refine x_iconst (v := 0) (pc := 9) hc dX4_copyFrom_9 (by decide) ?_
  refine x_bipush (v := 20) (pc := 10) hc dX4_copyFrom_10 (by decide) ?_
  refine x_copy (pc := 12) hc ml_X4_28 (afY ho (i := 1) (by decide) (by decide)) (afY hk (i := 1) (by decide) (by decide)) (by decide) (by decide) (by decide) (by simp [Value.category]; decide) dX4_copyFrom_12 ?_
  refine x_G (cpy_eq _ _ _ _) ?_
  refine x_Gn (fun G1 eG1 => ?_)
  refine x_aload_n (pc := 15) hc dX4_copyFrom_15 1 rfl ?_
  refine x_get (pc := 16) hc (cfY ho) kcX4 1 (by decide) fl_X4_15 rfl dX4_copyFrom_16 ?_
  refine x_iconst (v := 0) (pc := 19) hc dX4_copyFrom_19 (by decide) ?_
  refine x_aload_n (pc := 20) hc dX4_copyFrom_20 0 rfl ?_
  refine x_get (pc := 21) hc (cfY hk) kcX4 1 (by decide) fl_X4_15 rfl dX4_copyFrom_21 ?_
  refine x_iconst (v := 0) (pc := 24) hc dX4_copyFrom_24 (by decide) ?_
  refine x_bipush (v := 20) (pc := 25) hc dX4_copyFrom_25 (by decide) ?_
  refine x_copy (pc := 27) hc ml_X4_28 (afY ho (i := 2) (by decide) (by decide)) (afY hk (i := 2) (by decide) (by decide)) (by decide) (by decide) (by decide) (by simp [Value.category]; decide) dX4_copyFrom_27 ?_
  refine x_G (cpy_eq _ _ _ _) ?_
  refine x_Gn (fun G2 eG2 => ?_)
  refine x_aload_n (pc := 30) hc dX4_copyFrom_30 1 rfl ?_
  refine x_get (pc := 31) hc (cfY ho) kcX4 2 (by decide) fl_X4_18 rfl dX4_copyFrom_31 ?_
  refine x_iconst (v := 0) (pc := 34) hc dX4_copyFrom_34 (by decide) ?_
  refine x_aload_n (pc := 35) hc dX4_copyFrom_35 0 rfl ?_
  refine x_get (pc := 36) hc (cfY hk) kcX4 2 (by decide) fl_X4_18 rfl dX4_copyFrom_36 ?_
  refine x_iconst (v := 0) (pc := 39) hc dX4_copyFrom_39 (by decide) ?_
  refine x_bipush (v := 20) (pc := 40) hc dX4_copyFrom_40 (by decide) ?_
  refine x_copy (pc := 42) hc ml_X4_28 (afY ho (i := 3) (by decide) (by decide)) (afY hk (i := 3) (by decide) (by decide)) (by decide) (by decide) (by decide) (by simp [Value.category]; decide) dX4_copyFrom_42 ?_
  refine x_G (cpy_eq _ _ _ _) ?_
  refine x_Gn (fun G3 eG3 => ?_)
  refine x_aload_n (pc := 45) hc dX4_copyFrom_45 1 rfl ?_
  refine x_get (pc := 46) hc (cfY ho) kcX4 3 (by decide) fl_X4_21 rfl dX4_copyFrom_46 ?_
  refine x_iconst (v := 0) (pc := 49) hc dX4_copyFrom_49 (by decide) ?_
  refine x_aload_n (pc := 50) hc dX4_copyFrom_50 0 rfl ?_
  refine x_get (pc := 51) hc (cfY hk) kcX4 3 (by decide) fl_X4_21 rfl dX4_copyFrom_51 ?_
  refine x_iconst (v := 0) (pc := 54) hc dX4_copyFrom_54 (by decide) ?_
  refine x_bipush (v := 20) (pc := 55) hc dX4_copyFrom_55 (by decide) ?_
  refine x_copy (pc := 57) hc ml_X4_28 (afY ho (i := 4) (by decide) (by decide)) (afY hk (i := 4) (by decide) (by decide)) (by decide) (by decide) (by decide) (by simp [Value.category]; decide) dX4_copyFrom_57 ?_
  refine x_G (cpy_eq _ _ _ _) ?_
  refine x_Gn (fun G4 eG4 => ?_)
  refine x_aload_n (pc := 60) hc dX4_copyFrom_60 0 rfl ?_
  refine x_aload_n (pc := 61) hc dX4_copyFrom_61 1 rfl ?_
  refine x_get (pc := 62) hc (cfY ho) kcX4 4 (by decide) fl_X4_24 rfl dX4_copyFrom_62 ?_
  refine x_puti (pc := 65) hc (cfY hk) kcX4 4 (by decide) fl_X4_24 (by decide) rfl (by simp [fX4]) rfl dX4_copyFrom_65 ?_
  refine x_Gn (fun G5 eG5 => ?_)
  exact hret _ _ _ dX4_copyFrom_68 (by
      refine ⟨fun i h1 h4 j hj => ?_, ?_, fun q hq => ?_⟩
      · rw [eG5, up2_r _ _ _ (by omega)]
        rcases (show i = 1 ∨ i = 2 ∨ i = 3 ∨ i = 4 by omega) with rfl | rfl | rfl | rfl
        · rw [eG4, up1_n _ _ (by omega), eG3, up1_n _ _ (by omega), eG2, up1_n _ _ (by omega), eG1, up1_s, cp_at _ _ _ _ hj]
        · rw [eG4, up1_n _ _ (by omega), eG3, up1_n _ _ (by omega), eG2, up1_s, cp_at _ _ _ _ hj, eG1, up1_n _ _ (by omega)]
        · rw [eG4, up1_n _ _ (by omega), eG3, up1_s, cp_at _ _ _ _ hj, eG2, up1_n _ _ (by omega), eG1, up1_n _ _ (by omega)]
        · rw [eG4, up1_s, cp_at _ _ _ _ hj, eG3, up1_n _ _ (by omega), eG2, up1_n _ _ (by omega), eG1, up1_n _ _ (by omega)]
      · rw [eG5, up2_s, eG4, up1_n _ _ (by omega), eG3, up1_n _ _ (by omega), eG2, up1_n _ _ (by omega), eG1, up1_n _ _ (by omega)]
      · rw [eG5, up2_r _ _ _ (by omega), eG4, up1_n _ _ (by omega), eG3, up1_n _ _ (by omega), eG2, up1_n _ _ (by omega), eG1, up1_n _ _ (by omega)])
set_option maxHeartbeats 4000000 in
set_option maxRecDepth 100000 in
theorem m_X2_copyFrom {w : WT} (hI : xI w) (l : Launch) (G : GS) (k o : Nat) (hk : isN k) (ho : isN o) (hko : o ≠ k) : Mv w l yX2_copyFrom cX2_copyFrom 2 ⟨0, 0, 0, 0⟩ [.ref (w.2.2 k), .ref (w.2.2 o)] G (fun G' => (∀ j, j < 4 → G' k j = G o j) ∧ ∀ q, q ≠ k → G' q = G q) := by
  refine mk_v (L0 := [(0, .ref (w.2.2 k)), (1, .ref (w.2.2 o))]) hI (by decide +kernel) rfl (Nat.le_of_ble_eq_true rfl) (fun K hc hret => ?_)
  refine x_aload_n (pc := 0) hc dX2_copyFrom_0 0 rfl ?_
  refine x_aload_n (pc := 1) hc dX2_copyFrom_1 1 rfl ?_
  refine x_get (pc := 2) hc (cfN ho) kcX2 0 (by decide) fl_X2_7 rfl dX2_copyFrom_2 ?_
  refine x_puti (pc := 5) hc (cfN hk) kcX2 0 (by decide) fl_X2_7 (by decide) rfl (by simp [fX2]) rfl dX2_copyFrom_5 ?_
  refine x_Gn (fun G1 eG1 => ?_)
  refine x_aload_n (pc := 8) hc dX2_copyFrom_8 0 rfl ?_
  refine x_aload_n (pc := 9) hc dX2_copyFrom_9 1 rfl ?_
  refine x_get (pc := 10) hc (cfN ho) kcX2 1 (by decide) fl_X2_13 rfl dX2_copyFrom_10 ?_
  refine x_puti (pc := 13) hc (cfN hk) kcX2 1 (by decide) fl_X2_13 (by decide) rfl (by simp [fX2]) rfl dX2_copyFrom_13 ?_
  refine x_Gn (fun G2 eG2 => ?_)
  refine x_aload_n (pc := 16) hc dX2_copyFrom_16 0 rfl ?_
  refine x_aload_n (pc := 17) hc dX2_copyFrom_17 1 rfl ?_
  refine x_get (pc := 18) hc (cfN ho) kcX2 2 (by decide) fl_X2_16 rfl dX2_copyFrom_18 ?_
  refine x_puti (pc := 21) hc (cfN hk) kcX2 2 (by decide) fl_X2_16 (by decide) rfl (by simp [fX2]) rfl dX2_copyFrom_21 ?_
  refine x_Gn (fun G3 eG3 => ?_)
  refine x_aload_n (pc := 24) hc dX2_copyFrom_24 0 rfl ?_
  refine x_aload_n (pc := 25) hc dX2_copyFrom_25 1 rfl ?_
  refine x_get (pc := 26) hc (cfN ho) kcX2 3 (by decide) fl_X2_19 rfl dX2_copyFrom_26 ?_
  refine x_puti (pc := 29) hc (cfN hk) kcX2 3 (by decide) fl_X2_19 (by decide) rfl (by simp [fX2]) rfl dX2_copyFrom_29 ?_
  refine x_Gn (fun G4 eG4 => ?_)
  exact hret _ _ _ dX2_copyFrom_32 (by
      refine ⟨fun j hj => ?_, fun q hq => ?_⟩
      · rcases (show j = 0 ∨ j = 1 ∨ j = 2 ∨ j = 3 by omega) with rfl | rfl | rfl | rfl
        · rw [eG4, up2_i _ _ _ _ (by omega), eG3, up2_i _ _ _ _ (by omega), eG2, up2_i _ _ _ _ (by omega), eG1, up2_s]
        · rw [eG4, up2_i _ _ _ _ (by omega), eG3, up2_i _ _ _ _ (by omega), eG2, up2_s, eG1, up2_k _ _ _ _ (by omega)]
        · rw [eG4, up2_i _ _ _ _ (by omega), eG3, up2_s, eG2, up2_k _ _ _ _ (by omega), eG1, up2_k _ _ _ _ (by omega)]
        · rw [eG4, up2_s, eG3, up2_k _ _ _ _ (by omega), eG2, up2_k _ _ _ _ (by omega), eG1, up2_k _ _ _ _ (by omega)]
      · rw [eG4, up2_r _ _ _ (by omega), eG3, up2_r _ _ _ (by omega), eG2, up2_r _ _ _ (by omega), eG1, up2_r _ _ _ (by omega)])
set_option maxHeartbeats 4000000 in
set_option maxRecDepth 100000 in
theorem m_X1_copyFrom {w : WT} (hI : xI w) (l : Launch) (G : GS) (k o : Nat) (hk : isR k) (ho : isR o) (hko : o ≠ k) (hz : G o 2 = 0 ∨ G o 2 = 1) : Mv w l yX1_copyFrom cX1_copyFrom 2 ⟨0, 0, 0, 0⟩ [.ref (w.2.2 k), .ref (w.2.2 o)] G (fun G' => (∀ j, j < 5 → G' k j = G o j) ∧ ∀ q, q ≠ k → G' q = G q) := by
  refine mk_v (L0 := [(0, .ref (w.2.2 k)), (1, .ref (w.2.2 o))]) hI (by decide +kernel) rfl (Nat.le_of_ble_eq_true rfl) (fun K hc hret => ?_)
  refine x_aload_n (pc := 0) hc dX1_copyFrom_0 0 rfl ?_
  refine x_aload_n (pc := 1) hc dX1_copyFrom_1 1 rfl ?_
  refine x_get (pc := 2) hc (cfD ho) kcX1 0 (by decide) fl_X1_7 rfl dX1_copyFrom_2 ?_
  refine x_puti (pc := 5) hc (cfD hk) kcX1 0 (by decide) fl_X1_7 (by decide) rfl (by simp [fX1]) rfl dX1_copyFrom_5 ?_
  refine x_Gn (fun G1 eG1 => ?_)
  refine x_aload_n (pc := 8) hc dX1_copyFrom_8 0 rfl ?_
  refine x_aload_n (pc := 9) hc dX1_copyFrom_9 1 rfl ?_
  refine x_get (pc := 10) hc (cfD ho) kcX1 1 (by decide) fl_X1_13 rfl dX1_copyFrom_10 ?_
  refine x_puti (pc := 13) hc (cfD hk) kcX1 1 (by decide) fl_X1_13 (by decide) rfl (by simp [fX1]) rfl dX1_copyFrom_13 ?_
  refine x_Gn (fun G2 eG2 => ?_)
  refine x_aload_n (pc := 16) hc dX1_copyFrom_16 0 rfl ?_
  refine x_aload_n (pc := 17) hc dX1_copyFrom_17 1 rfl ?_
  refine x_get (pc := 18) hc (cfD ho) kcX1 2 (by decide) fl_X1_16 rfl dX1_copyFrom_18 ?_
  refine x_put (pc := 21) hc (cfD hk) kcX1 2 (by decide) fl_X1_16 (by decide) (G2 o 2) rfl (by simp [fX1]) (nz_b (by rw [eG2, up2_k _ _ _ _ (by omega), eG1, up2_k _ _ _ _ (by omega)]; exact hz)) (ft_b (by rw [eG2, up2_k _ _ _ _ (by omega), eG1, up2_k _ _ _ _ (by omega)]; exact hz)) dX1_copyFrom_21 ?_
  refine x_Gn (fun G3 eG3 => ?_)
  refine x_aload_n (pc := 24) hc dX1_copyFrom_24 0 rfl ?_
  refine x_aload_n (pc := 25) hc dX1_copyFrom_25 1 rfl ?_
  refine x_get (pc := 26) hc (cfD ho) kcX1 3 (by decide) fl_X1_20 rfl dX1_copyFrom_26 ?_
  refine x_puti (pc := 29) hc (cfD hk) kcX1 3 (by decide) fl_X1_20 (by decide) rfl (by simp [fX1]) rfl dX1_copyFrom_29 ?_
  refine x_Gn (fun G4 eG4 => ?_)
  refine x_aload_n (pc := 32) hc dX1_copyFrom_32 0 rfl ?_
  refine x_aload_n (pc := 33) hc dX1_copyFrom_33 1 rfl ?_
  refine x_get (pc := 34) hc (cfD ho) kcX1 4 (by decide) fl_X1_23 rfl dX1_copyFrom_34 ?_
  refine x_puti (pc := 37) hc (cfD hk) kcX1 4 (by decide) fl_X1_23 (by decide) rfl (by simp [fX1]) rfl dX1_copyFrom_37 ?_
  refine x_Gn (fun G5 eG5 => ?_)
  exact hret _ _ _ dX1_copyFrom_40 (by
      refine ⟨fun j hj => ?_, fun q hq => ?_⟩
      · rcases (show j = 0 ∨ j = 1 ∨ j = 2 ∨ j = 3 ∨ j = 4 by omega) with rfl | rfl | rfl | rfl | rfl
        · rw [eG5, up2_i _ _ _ _ (by omega), eG4, up2_i _ _ _ _ (by omega), eG3, up2_i _ _ _ _ (by omega), eG2, up2_i _ _ _ _ (by omega), eG1, up2_s]
        · rw [eG5, up2_i _ _ _ _ (by omega), eG4, up2_i _ _ _ _ (by omega), eG3, up2_i _ _ _ _ (by omega), eG2, up2_s, eG1, up2_k _ _ _ _ (by omega)]
        · rw [eG5, up2_i _ _ _ _ (by omega), eG4, up2_i _ _ _ _ (by omega), eG3, up2_s, eG2, up2_k _ _ _ _ (by omega), eG1, up2_k _ _ _ _ (by omega)]
        · rw [eG5, up2_i _ _ _ _ (by omega), eG4, up2_s, eG3, up2_k _ _ _ _ (by omega), eG2, up2_k _ _ _ _ (by omega), eG1, up2_k _ _ _ _ (by omega)]
        · rw [eG5, up2_s, eG4, up2_k _ _ _ _ (by omega), eG3, up2_k _ _ _ _ (by omega), eG2, up2_k _ _ _ _ (by omega), eG1, up2_k _ _ _ _ (by omega)]
      · rw [eG5, up2_r _ _ _ (by omega), eG4, up2_r _ _ _ (by omega), eG3, up2_r _ _ _ (by omega), eG2, up2_r _ _ _ (by omega), eG1, up2_r _ _ _ (by omega)])
set_option maxHeartbeats 4000000 in
set_option maxRecDepth 100000 in
theorem m_X2_reaches {w : WT} (hI : xI w) (l : Launch) (G : GS) (k : Nat) (d : Int32) (hk : isN k) : Mi w l yX2_reaches cX2_reaches 2 (some .boolean) ⟨0, 0, 0, 0⟩ [.ref (w.2.2 k), .int d] G (fun v9 G' => v9 = b01 (G k 0 < d ∧ d ≤ G k 0 + G k 3) ∧ G' = G) := by
  refine mk_i (L0 := [(0, .ref (w.2.2 k)), (1, .int d)]) hI (by decide +kernel) rfl (Nat.le_of_ble_eq_true rfl) (fun v G9 h => by rw [h.1]; exact nz_b01 _) (fun K hc hret => ?_)
  refine x_iload_n (pc := 0) hc dX2_reaches_0 1 rfl ?_
  refine x_aload_n (pc := 1) hc dX2_reaches_1 0 rfl ?_
  refine x_get (pc := 2) hc (cfN hk) kcX2 0 (by decide) fl_X2_7 rfl dX2_reaches_2 ?_
  refine x_icmp_le (pc := 5) hc dX2_reaches_5 25 (by decide) (fun c5 => ?_) (fun c5 => ?_)
  · refine x_iconst (v := 0) (pc := 25) hc dX2_reaches_25 (by decide) ?_
    exact hret _ _ _ _ dX2_reaches_26 ⟨(b01_neg (fun z => absurd z.1 (Int32.not_lt.mpr c5))).symm, rfl⟩
  · refine x_iload_n (pc := 8) hc dX2_reaches_8 1 rfl ?_
    refine x_aload_n (pc := 9) hc dX2_reaches_9 0 rfl ?_
    refine x_get (pc := 10) hc (cfN hk) kcX2 0 (by decide) fl_X2_7 rfl dX2_reaches_10 ?_
    refine x_aload_n (pc := 13) hc dX2_reaches_13 0 rfl ?_
    refine x_get (pc := 14) hc (cfN hk) kcX2 3 (by decide) fl_X2_19 rfl dX2_reaches_14 ?_
    refine x_iadd (pc := 17) hc dX2_reaches_17 ?_
    refine x_icmp_gt (pc := 18) hc dX2_reaches_18 25 (by decide) (fun c18 => ?_) (fun c18 => ?_)
    · refine x_iconst (v := 0) (pc := 25) hc dX2_reaches_25 (by decide) ?_
      exact hret _ _ _ _ dX2_reaches_26 ⟨(b01_neg (fun z => absurd z.2 (Int32.not_le.mpr c18))).symm, rfl⟩
    · refine x_iconst (v := 1) (pc := 21) hc dX2_reaches_21 (by decide) ?_
      refine x_goto (pc := 22) hc dX2_reaches_22 26 (by decide) ?_
      exact hret _ _ _ _ dX2_reaches_26 ⟨(b01_pos ⟨Int32.not_le.mp c5, Int32.not_lt.mp c18⟩).symm, rfl⟩
/-- what a reader wins: coins n, bet on z0, at odds o -/
def wiN (n z0 z t o : Int32) : Int32 := if z = z0 then (if t = z0 then n else n * o) else -n
set_option maxHeartbeats 4000000 in
set_option maxRecDepth 100000 in
theorem m_X1_winnings {w : WT} (hI : xI w) (l : Launch) (G : GS) (k : Nat) (z t o : Int32) (hk : isR k) : Mi w l yX1_winnings cX1_winnings 4 (some .int) ⟨0, 0, 0, 0⟩ [.ref (w.2.2 k), .int z, .int t, .int o] G (fun v9 G' => v9 = wiN (G k 1) (G k 2) z t o ∧ G' = G) := by
  refine mk_i (L0 := [(0, .ref (w.2.2 k)), (1, .int z), (2, .int t), (3, .int o)]) hI (by decide +kernel) rfl (Nat.le_of_ble_eq_true rfl) (fun _ _ _ => rfl) (fun K hc hret => ?_)
  refine x_iload_n (pc := 0) hc dX1_winnings_0 1 rfl ?_
  refine x_aload_n (pc := 1) hc dX1_winnings_1 0 rfl ?_
  refine x_get (pc := 2) hc (cfD hk) kcX1 2 (by decide) fl_X1_16 rfl dX1_winnings_2 ?_
  refine x_icmp_eq (pc := 5) hc dX1_winnings_5 14 (by decide) (fun c5 => ?_) (fun c5 => ?_)
  · refine x_iload_n (pc := 14) hc dX1_winnings_14 2 rfl ?_
    refine x_aload_n (pc := 15) hc dX1_winnings_15 0 rfl ?_
    refine x_get (pc := 16) hc (cfD hk) kcX1 2 (by decide) fl_X1_16 rfl dX1_winnings_16 ?_
    refine x_icmp_eq (pc := 19) hc dX1_winnings_19 31 (by decide) (fun c19 => ?_) (fun c19 => ?_)
    · refine x_aload_n (pc := 31) hc dX1_winnings_31 0 rfl ?_
      refine x_get (pc := 32) hc (cfD hk) kcX1 1 (by decide) fl_X1_13 rfl dX1_winnings_32 ?_
      exact hret _ _ _ _ dX1_winnings_35 ⟨(by unfold wiN; rw [if_pos c5, if_pos c19]), rfl⟩
    · refine x_aload_n (pc := 22) hc dX1_winnings_22 0 rfl ?_
      refine x_get (pc := 23) hc (cfD hk) kcX1 1 (by decide) fl_X1_13 rfl dX1_winnings_23 ?_
      refine x_iload_n (pc := 26) hc dX1_winnings_26 3 rfl ?_
      refine x_imul (pc := 27) hc dX1_winnings_27 ?_
      refine x_goto (pc := 28) hc dX1_winnings_28 35 (by decide) ?_
      exact hret _ _ _ _ dX1_winnings_35 ⟨(by unfold wiN; rw [if_pos c5, if_neg c19]), rfl⟩
  · refine x_aload_n (pc := 8) hc dX1_winnings_8 0 rfl ?_
    refine x_get (pc := 9) hc (cfD hk) kcX1 1 (by decide) fl_X1_13 rfl dX1_winnings_9 ?_
    refine x_ineg (pc := 12) hc dX1_winnings_12 ?_
    exact hret _ _ _ _ dX1_winnings_13 ⟨(by unfold wiN; exact (if_neg c5).symm), rfl⟩
set_option maxHeartbeats 4000000 in
set_option maxRecDepth 100000 in
theorem m_X1_dropBet {w : WT} (hI : xI w) (l : Launch) (G : GS) (k : Nat) (hk : isR k) : Mv w l yX1_dropBet cX1_dropBet 1 ⟨0, 0, 0, 0⟩ [.ref (w.2.2 k)] G (fun G' => G' = up2 (up2 G k 1 0) k 2 0) := by
  refine mk_v (L0 := [(0, .ref (w.2.2 k))]) hI (by decide +kernel) rfl (Nat.le_of_ble_eq_true rfl) (fun K hc hret => ?_)
  refine x_aload_n (pc := 0) hc dX1_dropBet_0 0 rfl ?_
  refine x_iconst (v := 0) (pc := 1) hc dX1_dropBet_1 (by decide) ?_
  refine x_puti (pc := 2) hc (cfD hk) kcX1 1 (by decide) fl_X1_13 (by decide) rfl (by simp [fX1]) rfl dX1_dropBet_2 ?_
  refine x_Gn (fun G1 eG1 => ?_)
  refine x_aload_n (pc := 5) hc dX1_dropBet_5 0 rfl ?_
  refine x_iconst (v := 0) (pc := 6) hc dX1_dropBet_6 (by decide) ?_
  refine x_put (pc := 7) hc (cfD hk) kcX1 2 (by decide) fl_X1_16 (by decide) 0 rfl (by simp [fX1]) rfl rfl dX1_dropBet_7 ?_
  refine x_Gn (fun G2 eG2 => ?_)
  exact hret _ _ _ dX1_dropBet_10 (by rw [eG2, eG1])
