set_option maxHeartbeats 4000000 in
set_option maxRecDepth 100000 in
theorem m_X6_sumOfSizes {w : WT} (hI : xI w) (l : Launch) (G : GS)  : Mi w l yX6_sumOfSizes cX6_sumOfSizes 3 (some .int) ⟨1, 0, 0, 20⟩ [.ref (w.2.2 239)] G (fun v9 G' => v9 = sSum (G 244) 20 ∧ G' = G) := by
  refine mk_i (L0 := [(0, .ref (w.2.2 239))]) hI (by decide +kernel) rfl (Nat.le_of_ble_eq_true rfl) (fun _ _ _ => rfl) (fun K hc hret => ?_)
  refine x_iconst (v := 0) (pc := 0) hc dX6_sumOfSizes_0 (by decide) ?_
  refine x_istore_n (pc := 1) (L' := [(1, .int 0), (0, .ref (w.2.2 239))]) hc dX6_sumOfSizes_1 (by decide) rfl ?_
  refine x_iconst (v := 0) (pc := 2) hc dX6_sumOfSizes_2 (by decide) ?_
  refine x_istore_n (pc := 3) (L' := [(2, .int 0), (1, .int 0), (0, .ref (w.2.2 239))]) hc dX6_sumOfSizes_3 (by decide) rfl ?_
  have loop4 : ∀ (n1 : Nat) (k : Nat), k ≤ 20 → 20 < k + n1 → XX w K 3 G 4 [(2, .int (nI k)), (1, .int (sSum (G 244) k)), (0, .ref (w.2.2 239))] [] := by
    intro n1
    induction n1 with
    | zero => intro k hk hf; omega
    | succ n1 ih =>
      intro k hk hf
      refine x_iload_n (pc := 4) hc dX6_sumOfSizes_4 0 rfl ?_
      refine x_bipush (v := 20) (pc := 5) hc dX6_sumOfSizes_5 (by decide) ?_
      refine x_icmp_ge (pc := 7) hc dX6_sumOfSizes_7 28 (by decide) (fun c7 => ?_) (fun c7 => ?_)
      · have c7 : 20 ≤ k := (nI_leI (a := 20) (b := k) (by omega) (by omega)).mp c7
        refine x_iload_n (pc := 28) hc dX6_sumOfSizes_28 1 rfl ?_
        exact hret _ _ _ _ dX6_sumOfSizes_29 ⟨by rw [show (20 : Nat) = k by omega], rfl⟩
      · have c7 : ¬ 20 ≤ k := fun h9 => c7 ((nI_leI (a := 20) (b := k) (by omega) (by omega)).mpr h9)
        refine x_iload_n (pc := 10) hc dX6_sumOfSizes_10 1 rfl ?_
        refine x_aload_n (pc := 11) hc dX6_sumOfSizes_11 2 rfl ?_
        refine x_get (pc := 12) hc cfR kcX6 7 (by decide) fl_X6_22 rfl dX6_sumOfSizes_12 ?_
        refine x_iload_n (pc := 15) hc dX6_sumOfSizes_15 0 rfl ?_
        refine x_iald (pc := 16) hc af4 (vp_in_nI (by omega) (by decide)) dX6_sumOfSizes_16 ?_
        refine x_as (G 244 k) (congrArg _ (nI_clamp (by omega))) ?_
        refine x_callSi (pc := 17) hc cl_X6_73 [.int (G 244 k)] (m_X6_size hI (kl K) G (G 244 k)) rfl rfl (by simp [Value.category]) rfl rfl ⟨by decide, by decide⟩ dX6_sumOfSizes_17 (fun r17 Gc17 q17 => ?_)
        obtain ⟨er17, eGc17⟩ := q17
        rw [eGc17]
        subst er17
        refine x_iadd (pc := 20) hc dX6_sumOfSizes_20 ?_
        refine x_nm (fun x21 ex21 => ?_)
        refine x_istore_n (pc := 21) (L' := [(1, .int x21), (2, .int (nI k)), (0, .ref (w.2.2 239))]) hc dX6_sumOfSizes_21 (by decide) rfl ?_
        refine x_iinc (pc := 22) (L' := [(2, .int (nI (k + 1))), (1, .int x21), (0, .ref (w.2.2 239))]) hc dX6_sumOfSizes_22 1 rfl (nI (k + 1)) (nI_1 _) (by decide) rfl ?_
        refine x_goto (pc := 25) hc dX6_sumOfSizes_25 4 (by decide) ?_
        refine x_loc [0, 1, 2] rfl ?_
        rw [ex21]
        exact ih (k + 1) (by omega) (by omega)
  refine x_loc [0, 1, 2] rfl ?_
  exact loop4 21 0 (by omega) (by omega)
set_option maxHeartbeats 4000000 in
set_option maxRecDepth 100000 in
theorem m_X6_sumNow {w : WT} (hI : xI w) (l : Launch) (G : GS) (B : Nat) (hV : AV (aOf G) B) : Mi w l yX6_sumNow cX6_sumNow 1 (some .int) ⟨2, 0, 0, 42⟩ [.ref (w.2.2 239)] G (fun v9 G' => v9 = sSum (nowM (G 240)) 20 ∧ G' = GM G 0 (G 240) (G 240) (lnRow (G 240) (G 244) (dN (G 240)) 20)) := by
  refine mk_i (L0 := [(0, .ref (w.2.2 239))]) hI (by decide +kernel) rfl (Nat.le_of_ble_eq_true rfl) (fun _ _ _ => rfl) (fun K hc hret => ?_)
  have hn : aN (aOf G) ≤ 4 := hV.1
  have h300 : G 240 300 = nI (dN (G 240)) := hV.2.1.1.2
  have hdN : dN (G 240) < 20 := hV.2.1.1.1
  have h303a : G 240 303 = nI (rN (G 240)) := hV.2.1.2.2.1.2
  have hrN : rN (G 240) ≤ 9 := hV.2.1.2.2.1.1
  have hsn : rSn (G 240) (cN (G 240)) := hV.2.1.2.2.2.2.1
  have hcN := hsn.1
  have h302 : G 240 302 = nI (kN (G 240)) := hV.2.1.2.1.2.2
  have hkN : kN (G 240) ≤ 4 := by unfold kN; omega
  refine x_aload_n (pc := 0) hc dX6_sumNow_0 0 rfl ?_
  refine x_iconst (v := 0) (pc := 1) hc dX6_sumNow_1 (by decide) ?_
  refine x_callVv (pc := 2) hc cl_X6_58 cfR kcX6 [.int 0] (gm_0 G ▸ m_X6_looksNow hI (kl K) G (dN (G 240)) 0 (G 240) (G 240) (G 244) (by omega) (by omega) h300) rfl rfl (by simp [Value.category]) rfl rfl ⟨by decide, by decide⟩ dX6_sumNow_2 (fun Gc2 q2 => ?_)
  rw [q2]
  refine x_aload_n (pc := 5) hc dX6_sumNow_5 0 rfl ?_
  refine x_callVi (pc := 6) hc cl_X6_141 cfR kcX6 [] (m_X6_sumOfSizes hI (kl K) (GM G 0 (G 240) (G 240) (lnRow (G 240) (G 244) (dN (G 240)) 20))) rfl rfl (by simp [Value.category]) rfl rfl ⟨by decide, by decide⟩ dX6_sumNow_6 (fun r6 Gc6 q6 => ?_)
  obtain ⟨er6, eGc6⟩ := q6
  rw [eGc6]
  subst er6
  refine x_as (sSum ((lnRow (G 240) (G 244) (dN (G 240)) 20)) 20) rfl ?_
  exact hret _ _ _ _ dX6_sumNow_9 ⟨sSum_congr _ (fun j hj => lnRow_d _ _ hj), rfl⟩
set_option maxHeartbeats 4000000 in
set_option maxRecDepth 100000 in
theorem m_X6_sumBefore {w : WT} (hI : xI w) (l : Launch) (G : GS) (B : Nat) (hV : AV (aOf G) B) : Mi w l yX6_sumBefore cX6_sumBefore 1 (some .int) ⟨2, 0, 0, 42⟩ [.ref (w.2.2 239)] G (fun v9 G' => v9 = (if G 240 302 = 0 then -5 else sSum (okM (G 240) 0) 20) ∧ G' = GM G 0 (G 240) (G 240) (lkRow (G 240) (G 244) 0 20)) := by
  refine mk_i (L0 := [(0, .ref (w.2.2 239))]) hI (by decide +kernel) rfl (Nat.le_of_ble_eq_true rfl) (fun _ _ _ => rfl) (fun K hc hret => ?_)
  have hn : aN (aOf G) ≤ 4 := hV.1
  have h300 : G 240 300 = nI (dN (G 240)) := hV.2.1.1.2
  have hdN : dN (G 240) < 20 := hV.2.1.1.1
  have h303a : G 240 303 = nI (rN (G 240)) := hV.2.1.2.2.1.2
  have hrN : rN (G 240) ≤ 9 := hV.2.1.2.2.1.1
  have hsn : rSn (G 240) (cN (G 240)) := hV.2.1.2.2.2.2.1
  have hcN := hsn.1
  have h302 : G 240 302 = nI (kN (G 240)) := hV.2.1.2.1.2.2
  have hkN : kN (G 240) ≤ 4 := by unfold kN; omega
  refine x_aload_n (pc := 0) hc dX6_sumBefore_0 0 rfl ?_
  refine x_iconst (v := 0) (pc := 1) hc dX6_sumBefore_1 (by decide) ?_
  refine x_callVv (pc := 2) hc cl_X6_135 cfR kcX6 [.int 0] (gm_0 G ▸ m_X6_looks hI (kl K) G 0 (G 240) (G 240) (G 244) (by omega)) rfl rfl (by simp [Value.category]) rfl rfl ⟨by decide, by decide⟩ dX6_sumBefore_2 (fun Gc2 q2 => ?_)
  rw [q2]
  refine x_aload_n (pc := 5) hc dX6_sumBefore_5 0 rfl ?_
  refine x_get (pc := 6) hc cfR kcX6 0 (by decide) fl_X6_7 rfl dX6_sumBefore_6 ?_
  refine x_sipush (v := 302) (pc := 9) hc dX6_sumBefore_9 (by decide) ?_
  refine x_as (nI 302) rfl ?_
  refine x_iald (pc := 12) hc af0 (vp_in_nI (by omega) (by decide)) dX6_sumBefore_12 ?_
  refine x_as ((G 240) 302) (gm_ld (by omega) (by omega)) ?_
  refine x_if_ne (pc := 13) hc dX6_sumBefore_13 21 (by decide) (fun c13 => ?_) (fun c13 => ?_)
  · refine x_aload_n (pc := 21) hc dX6_sumBefore_21 0 rfl ?_
    refine x_callVi (pc := 22) hc cl_X6_141 cfR kcX6 [] (m_X6_sumOfSizes hI (kl K) (GM G 0 (G 240) (G 240) (lkRow (G 240) (G 244) 0 20))) rfl rfl (by simp [Value.category]) rfl rfl ⟨by decide, by decide⟩ dX6_sumBefore_22 (fun r22 Gc22 q22 => ?_)
    obtain ⟨er22, eGc22⟩ := q22
    rw [eGc22]
    subst er22
    refine x_as (sSum ((lkRow (G 240) (G 244) 0 20)) 20) rfl ?_
    exact hret _ _ _ _ dX6_sumBefore_25 ⟨(by rw [if_neg c13]; exact sSum_congr _ (fun j hj => lkRow_in _ _ _ hj)), rfl⟩
  · refine x_bipush (v := (-5)) (pc := 16) hc dX6_sumBefore_16 (by decide) ?_
    refine x_goto (pc := 18) hc dX6_sumBefore_18 25 (by decide) ?_
    exact hret _ _ _ _ dX6_sumBefore_25 ⟨(by rw [if_pos c13]), rfl⟩
set_option maxHeartbeats 4000000 in
set_option maxRecDepth 100000 in
theorem M_count {w : WT} (hI : xI w) (l : Launch) (G : GS) (y : Int32) (B : Nat) (hR : MR G) (hV : AV (aOf G) B) : Mi w l yX6_count cX6_count 2 (some .int) ⟨3, 0, 0, 62⟩ [.ref (w.2.2 239), .int y] G (fun v9 G' => v9 = qCount (aOf G) y ∧ PMq G G' (aOf G)) := by
  refine mk_i (L0 := [(0, .ref (w.2.2 239)), (1, .int y)]) hI (by decide +kernel) rfl (Nat.le_of_ble_eq_true rfl) (fun _ _ _ => rfl) (fun K hc hret => ?_)
  have hn : aN (aOf G) ≤ 4 := hV.1
  have h300 : G 240 300 = nI (dN (G 240)) := hV.2.1.1.2
  have hdN : dN (G 240) < 20 := hV.2.1.1.1
  have h303a : G 240 303 = nI (rN (G 240)) := hV.2.1.2.2.1.2
  have hrN : rN (G 240) ≤ 9 := hV.2.1.2.2.1.1
  have hsn : rSn (G 240) (cN (G 240)) := hV.2.1.2.2.2.2.1
  have hcN := hsn.1
  have h302 : G 240 302 = nI (kN (G 240)) := hV.2.1.2.1.2.2
  have hkN : kN (G 240) ≤ 4 := by unfold kN; omega
  refine x_iload_n (pc := 0) hc dX6_count_0 1 rfl ?_
  by_cases s1_0 : y = 0
  · subst s1_0
    refine x_tableIn (pc := 1) hc dX6_count_1 (by decide) (by decide) rfl 64 (by decide) ?_
    refine x_aload_n (pc := 64) hc dX6_count_64 0 rfl ?_
    refine x_get (pc := 65) hc cfR kcX6 0 (by decide) fl_X6_7 rfl dX6_count_65 ?_
    refine x_sipush (v := 301) (pc := 68) hc dX6_count_68 (by decide) ?_
    refine x_as (nI 301) rfl ?_
    refine x_iald (pc := 71) hc af0 (vp_in_nI (by omega) (by decide)) dX6_count_71 ?_
    refine x_as (G 240 301) (congrArg _ (nI_clamp (by omega))) ?_
    exact hret _ _ _ _ dX6_count_72 ⟨(by unfold qCount; rw [if_pos rfl]), PMq_same hR (fun _ _ => rfl)⟩
  by_cases s1_1 : y = 1
  · subst s1_1
    refine x_tableIn (pc := 1) hc dX6_count_1 (by decide) (by decide) rfl 73 (by decide) ?_
    refine x_aload_n (pc := 73) hc dX6_count_73 0 rfl ?_
    refine x_get (pc := 74) hc cfR kcX6 0 (by decide) fl_X6_7 rfl dX6_count_74 ?_
    refine x_sipush (v := 300) (pc := 77) hc dX6_count_77 (by decide) ?_
    refine x_as (nI 300) rfl ?_
    refine x_iald (pc := 80) hc af0 (vp_in_nI (by omega) (by decide)) dX6_count_80 ?_
    refine x_as (G 240 300) (congrArg _ (nI_clamp (by omega))) ?_
    exact hret _ _ _ _ dX6_count_81 ⟨(by unfold qCount; rw [if_neg s1_0, if_pos rfl]), PMq_same hR (fun _ _ => rfl)⟩
  by_cases s1_2 : y = 2
  · subst s1_2
    refine x_tableIn (pc := 1) hc dX6_count_1 (by decide) (by decide) rfl 82 (by decide) ?_
    refine x_aload_n (pc := 82) hc dX6_count_82 0 rfl ?_
    refine x_get (pc := 83) hc cfR kcX6 0 (by decide) fl_X6_7 rfl dX6_count_83 ?_
    refine x_sipush (v := 302) (pc := 86) hc dX6_count_86 (by decide) ?_
    refine x_as (nI 302) rfl ?_
    refine x_iald (pc := 89) hc af0 (vp_in_nI (by omega) (by decide)) dX6_count_89 ?_
    refine x_as (G 240 302) (congrArg _ (nI_clamp (by omega))) ?_
    exact hret _ _ _ _ dX6_count_90 ⟨(by unfold qCount; rw [if_neg s1_0, if_neg s1_1, if_pos rfl]), PMq_same hR (fun _ _ => rfl)⟩
  by_cases s1_3 : y = 3
  · subst s1_3
    refine x_tableIn (pc := 1) hc dX6_count_1 (by decide) (by decide) rfl 91 (by decide) ?_
    refine x_aload_n (pc := 91) hc dX6_count_91 0 rfl ?_
    refine x_get (pc := 92) hc cfR kcX6 0 (by decide) fl_X6_7 rfl dX6_count_92 ?_
    refine x_sipush (v := 307) (pc := 95) hc dX6_count_95 (by decide) ?_
    refine x_as (nI 307) rfl ?_
    refine x_iald (pc := 98) hc af0 (vp_in_nI (by omega) (by decide)) dX6_count_98 ?_
    refine x_as (G 240 307) (congrArg _ (nI_clamp (by omega))) ?_
    exact hret _ _ _ _ dX6_count_99 ⟨(by unfold qCount; rw [if_neg s1_0, if_neg s1_1, if_neg s1_2, if_pos rfl]), PMq_same hR (fun _ _ => rfl)⟩
  by_cases s1_4 : y = 4
  · subst s1_4
    refine x_tableIn (pc := 1) hc dX6_count_1 (by decide) (by decide) rfl 100 (by decide) ?_
    refine x_aload_n (pc := 100) hc dX6_count_100 0 rfl ?_
    refine x_get (pc := 101) hc cfR kcX6 0 (by decide) fl_X6_7 rfl dX6_count_101 ?_
    refine x_sipush (v := 348) (pc := 104) hc dX6_count_104 (by decide) ?_
    refine x_iload_n (pc := 107) hc dX6_count_107 1 rfl ?_
    refine x_iadd (pc := 108) hc dX6_count_108 ?_
    refine x_as 352 (by decide) ?_
    refine x_iconst (v := 4) (pc := 109) hc dX6_count_109 (by decide) ?_
    refine x_isub (pc := 110) hc dX6_count_110 ?_
    refine x_as 348 (by decide) ?_
    refine x_as (nI 348) rfl ?_
    refine x_iald (pc := 111) hc af0 (vp_in_nI (by omega) (by decide)) dX6_count_111 ?_
    refine x_as (G 240 348) (congrArg _ (nI_clamp (by omega))) ?_
    exact hret _ _ _ _ dX6_count_112 ⟨(by unfold qCount; rw [if_neg s1_0, if_neg s1_1, if_neg s1_2, if_neg s1_3, if_pos rfl]), PMq_same hR (fun _ _ => rfl)⟩
  by_cases s1_5 : y = 5
  · subst s1_5
    refine x_tableIn (pc := 1) hc dX6_count_1 (by decide) (by decide) rfl 100 (by decide) ?_
    refine x_aload_n (pc := 100) hc dX6_count_100 0 rfl ?_
    refine x_get (pc := 101) hc cfR kcX6 0 (by decide) fl_X6_7 rfl dX6_count_101 ?_
    refine x_sipush (v := 348) (pc := 104) hc dX6_count_104 (by decide) ?_
    refine x_iload_n (pc := 107) hc dX6_count_107 1 rfl ?_
    refine x_iadd (pc := 108) hc dX6_count_108 ?_
    refine x_as 353 (by decide) ?_
    refine x_iconst (v := 4) (pc := 109) hc dX6_count_109 (by decide) ?_
    refine x_isub (pc := 110) hc dX6_count_110 ?_
    refine x_as 349 (by decide) ?_
    refine x_as (nI 349) rfl ?_
    refine x_iald (pc := 111) hc af0 (vp_in_nI (by omega) (by decide)) dX6_count_111 ?_
    refine x_as (G 240 349) (congrArg _ (nI_clamp (by omega))) ?_
    exact hret _ _ _ _ dX6_count_112 ⟨(by unfold qCount; rw [if_neg s1_0, if_neg s1_1, if_neg s1_2, if_neg s1_3, if_neg s1_4, if_pos rfl]), PMq_same hR (fun _ _ => rfl)⟩
  by_cases s1_6 : y = 6
  · subst s1_6
    refine x_tableIn (pc := 1) hc dX6_count_1 (by decide) (by decide) rfl 100 (by decide) ?_
    refine x_aload_n (pc := 100) hc dX6_count_100 0 rfl ?_
    refine x_get (pc := 101) hc cfR kcX6 0 (by decide) fl_X6_7 rfl dX6_count_101 ?_
    refine x_sipush (v := 348) (pc := 104) hc dX6_count_104 (by decide) ?_
    refine x_iload_n (pc := 107) hc dX6_count_107 1 rfl ?_
    refine x_iadd (pc := 108) hc dX6_count_108 ?_
    refine x_as 354 (by decide) ?_
    refine x_iconst (v := 4) (pc := 109) hc dX6_count_109 (by decide) ?_
    refine x_isub (pc := 110) hc dX6_count_110 ?_
    refine x_as 350 (by decide) ?_
    refine x_as (nI 350) rfl ?_
    refine x_iald (pc := 111) hc af0 (vp_in_nI (by omega) (by decide)) dX6_count_111 ?_
    refine x_as (G 240 350) (congrArg _ (nI_clamp (by omega))) ?_
    exact hret _ _ _ _ dX6_count_112 ⟨(by unfold qCount; rw [if_neg s1_0, if_neg s1_1, if_neg s1_2, if_neg s1_3, if_neg s1_4, if_neg s1_5, if_pos rfl]), PMq_same hR (fun _ _ => rfl)⟩
  by_cases s1_7 : y = 7
  · subst s1_7
    refine x_tableIn (pc := 1) hc dX6_count_1 (by decide) (by decide) rfl 113 (by decide) ?_
    refine x_aload_n (pc := 113) hc dX6_count_113 0 rfl ?_
    refine x_callVi (pc := 114) hc cl_X6_144 cfR kcX6 [] (m_X6_sumNow hI (kl K) G B hV) rfl rfl (by simp [Value.category]) rfl rfl ⟨by decide, by decide⟩ dX6_count_114 (fun r114 Gc114 q114 => ?_)
    obtain ⟨ev9, eq9⟩ := q114
    subst ev9
    exact hret _ _ _ _ dX6_count_117 ⟨(by unfold qCount; rw [if_neg s1_0, if_neg s1_1, if_neg s1_2, if_neg s1_3, if_neg s1_4, if_neg s1_5, if_neg s1_6, if_pos rfl]), (by rw [eq9]; exact PMq_same hR (gm_same G _))⟩
  by_cases s1_8 : y = 8
  · subst s1_8
    refine x_tableIn (pc := 1) hc dX6_count_1 (by decide) (by decide) rfl 118 (by decide) ?_
    refine x_aload_n (pc := 118) hc dX6_count_118 0 rfl ?_
    refine x_callVi (pc := 119) hc cl_X6_147 cfR kcX6 [] (m_X6_sumBefore hI (kl K) G B hV) rfl rfl (by simp [Value.category]) rfl rfl ⟨by decide, by decide⟩ dX6_count_119 (fun r119 Gc119 q119 => ?_)
    obtain ⟨ev9, eq9⟩ := q119
    subst ev9
    exact hret _ _ _ _ dX6_count_122 ⟨(by unfold qCount; rw [if_neg s1_0, if_neg s1_1, if_neg s1_2, if_neg s1_3, if_neg s1_4, if_neg s1_5, if_neg s1_6, if_neg s1_7, if_pos rfl]), (by rw [eq9]; exact PMq_same hR (gm_same G _))⟩
  by_cases s1_9 : y = 9
  · subst s1_9
    refine x_tableIn (pc := 1) hc dX6_count_1 (by decide) (by decide) rfl 123 (by decide) ?_
    refine x_aload_n (pc := 123) hc dX6_count_123 0 rfl ?_
    refine x_get (pc := 124) hc cfR kcX6 0 (by decide) fl_X6_7 rfl dX6_count_124 ?_
    refine x_sipush (v := 351) (pc := 127) hc dX6_count_127 (by decide) ?_
    refine x_as (nI 351) rfl ?_
    refine x_iald (pc := 130) hc af0 (vp_in_nI (by omega) (by decide)) dX6_count_130 ?_
    refine x_as (G 240 351) (congrArg _ (nI_clamp (by omega))) ?_
    refine x_ldc (pc := 131) hc dX6_count_131 kc_X6_150 ?_
    refine x_iadd (pc := 133) hc dX6_count_133 ?_
    exact hret _ _ _ _ dX6_count_134 ⟨(by unfold qCount; rw [if_neg s1_0, if_neg s1_1, if_neg s1_2, if_neg s1_3, if_neg s1_4, if_neg s1_5, if_neg s1_6, if_neg s1_7, if_neg s1_8, if_pos rfl]), PMq_same hR (fun _ _ => rfl)⟩
  by_cases s1_10 : y = 10
  · subst s1_10
    refine x_tableIn (pc := 1) hc dX6_count_1 (by decide) (by decide) rfl 135 (by decide) ?_
    refine x_aload_n (pc := 135) hc dX6_count_135 0 rfl ?_
    refine x_get (pc := 136) hc cfR kcX6 2 (by decide) fl_X6_33 rfl dX6_count_136 ?_
    exact hret _ _ _ _ dX6_count_139 ⟨(by unfold qCount; rw [if_neg s1_0, if_neg s1_1, if_neg s1_2, if_neg s1_3, if_neg s1_4, if_neg s1_5, if_neg s1_6, if_neg s1_7, if_neg s1_8, if_neg s1_9, if_pos rfl]; exact hR.1), PMq_same hR (fun _ _ => rfl)⟩
  by_cases s1_11 : y = 11
  · subst s1_11
    refine x_tableIn (pc := 1) hc dX6_count_1 (by decide) (by decide) rfl 140 (by decide) ?_
    refine x_aload_n (pc := 140) hc dX6_count_140 0 rfl ?_
    refine x_get (pc := 141) hc cfR kcX6 6 (by decide) fl_X6_94 rfl dX6_count_141 ?_
    exact hret _ _ _ _ dX6_count_144 ⟨(by unfold qCount; rw [if_neg s1_0, if_neg s1_1, if_neg s1_2, if_neg s1_3, if_neg s1_4, if_neg s1_5, if_neg s1_6, if_neg s1_7, if_neg s1_8, if_neg s1_9, if_neg s1_10, if_pos rfl]; exact hR.2), PMq_same hR (fun _ _ => rfl)⟩
  have t1_0 : y.toInt ≠ 0 := fun z => s1_0 (Int32.toInt_inj.mp z)
  have t1_1 : y.toInt ≠ 1 := fun z => s1_1 (Int32.toInt_inj.mp z)
  have t1_2 : y.toInt ≠ 2 := fun z => s1_2 (Int32.toInt_inj.mp z)
  have t1_3 : y.toInt ≠ 3 := fun z => s1_3 (Int32.toInt_inj.mp z)
  have t1_4 : y.toInt ≠ 4 := fun z => s1_4 (Int32.toInt_inj.mp z)
  have t1_5 : y.toInt ≠ 5 := fun z => s1_5 (Int32.toInt_inj.mp z)
  have t1_6 : y.toInt ≠ 6 := fun z => s1_6 (Int32.toInt_inj.mp z)
  have t1_7 : y.toInt ≠ 7 := fun z => s1_7 (Int32.toInt_inj.mp z)
  have t1_8 : y.toInt ≠ 8 := fun z => s1_8 (Int32.toInt_inj.mp z)
  have t1_9 : y.toInt ≠ 9 := fun z => s1_9 (Int32.toInt_inj.mp z)
  have t1_10 : y.toInt ≠ 10 := fun z => s1_10 (Int32.toInt_inj.mp z)
  have t1_11 : y.toInt ≠ 11 := fun z => s1_11 (Int32.toInt_inj.mp z)
  refine x_tableOut (pc := 1) hc dX6_count_1 (by omega) 145 (by decide) ?_
  refine x_iload_n (pc := 145) hc dX6_count_145 1 rfl ?_
  refine x_bipush (v := 12) (pc := 146) hc dX6_count_146 (by decide) ?_
  refine x_bipush (v := 15) (pc := 148) hc dX6_count_148 (by decide) ?_
  refine x_callSi (pc := 150) hc cl_X6_29 [.int y, .int 12, .int 15] (m_X6_in hI (kl K) G y 12 15) rfl rfl (by simp [Value.category]) rfl rfl ⟨by decide, by decide⟩ dX6_count_150 (fun r150 Gc150 q150 => ?_)
  obtain ⟨er150, eGc150⟩ := q150
  rw [eGc150]
  subst er150
  refine x_if_eq (pc := 153) hc dX6_count_153 176 (by decide) (fun c153 => ?_) (fun c153 => ?_)
  · refine x_bipush (v := (-2)) (pc := 176) hc dX6_count_176 (by decide) ?_
    exact hret _ _ _ _ dX6_count_178 ⟨(by unfold qCount; rw [if_neg s1_0, if_neg s1_1, if_neg s1_2, if_neg s1_3, if_neg s1_4, if_neg s1_5, if_neg s1_6, if_neg s1_7, if_neg s1_8, if_neg s1_9, if_neg s1_10, if_neg s1_11, if_pos c153]), PMq_same hR (fun _ _ => rfl)⟩
  · have h12 : ∀ e, e ≤ 3 → (nI (12 + e) - 12).toNatClampNeg = e := fun e he => by
      show (nI (12 + e) - nI 12).toNatClampNeg = e
      rw [pk_sub (by omega), nI_clamp (by omega)]
      omega
    obtain ⟨e, he, rfl⟩ := inB_1215 c153
    have zy := h12 e he
    refine x_aload_n (pc := 156) hc dX6_count_156 0 rfl ?_
    refine x_get (pc := 157) hc cfR kcX6 0 (by decide) fl_X6_7 rfl dX6_count_157 ?_
    refine x_sipush (v := 303) (pc := 160) hc dX6_count_160 (by decide) ?_
    refine x_iload_n (pc := 163) hc dX6_count_163 1 rfl ?_
    refine x_iadd (pc := 164) hc dX6_count_164 ?_
    refine x_as (nI (303 + (12 + e))) (nI_add _ _) ?_
    refine x_bipush (v := 12) (pc := 165) hc dX6_count_165 (by decide) ?_
    refine x_isub (pc := 167) hc dX6_count_167 ?_
    refine x_as (nI (303 + e)) ((by
      show nI (303 + (12 + e)) - nI 12 = _
      rw [pk_sub (by omega)]
      congr 1
      omega)) ?_
    refine x_iald (pc := 168) hc af0 (vp_in_nI (by omega) (by decide)) dX6_count_168 ?_
    refine x_as (G 240 (303 + e)) (congrArg _ (nI_clamp (by omega))) ?_
    refine x_sipush (v := 1000) (pc := 169) hc dX6_count_169 (by decide) ?_
    refine x_iadd (pc := 172) hc dX6_count_172 ?_
    refine x_goto (pc := 173) hc dX6_count_173 178 (by decide) ?_
    exact hret _ _ _ _ dX6_count_178 ⟨(by unfold qCount; rw [if_neg s1_0, if_neg s1_1, if_neg s1_2, if_neg s1_3, if_neg s1_4, if_neg s1_5, if_neg s1_6, if_neg s1_7, if_neg s1_8, if_neg s1_9, if_neg s1_10, if_neg s1_11, if_neg c153, zy]), PMq_same hR (fun _ _ => rfl)⟩
set_option maxHeartbeats 4000000 in
set_option maxRecDepth 100000 in
theorem M_nextBase {w : WT} (hI : xI w) (l : Launch) (G : GS) (x : Int32) (B : Nat) (hR : MR G) (hV : AV (aOf G) B) : Mi w l yX6_nextBase cX6_nextBase 2 (some .int) ⟨4, 0, 0, 89⟩ [.ref (w.2.2 239), .int x] G (fun v9 G' => v9 = qNext (aOf G) x ∧ PMq G G' (aOf G)) := by
  refine mk_i (L0 := [(0, .ref (w.2.2 239)), (1, .int x)]) hI (by decide +kernel) rfl (Nat.le_of_ble_eq_true rfl) (fun _ _ _ => rfl) (fun K hc hret => ?_)
  have hn : aN (aOf G) ≤ 4 := hV.1
  have h300 : G 240 300 = nI (dN (G 240)) := hV.2.1.1.2
  have hdN : dN (G 240) < 20 := hV.2.1.1.1
  have h303a : G 240 303 = nI (rN (G 240)) := hV.2.1.2.2.1.2
  have hrN : rN (G 240) ≤ 9 := hV.2.1.2.2.1.1
  have hsn : rSn (G 240) (cN (G 240)) := hV.2.1.2.2.2.2.1
  have hcN := hsn.1
  have h302 : G 240 302 = nI (kN (G 240)) := hV.2.1.2.1.2.2
  have hkN : kN (G 240) ≤ 4 := by unfold kN; omega
  refine x_iload_n (pc := 0) hc dX6_nextBase_0 1 rfl ?_
  refine x_callSi (pc := 1) hc cl_X6_48 [.int x] (m_X6_isDay hI (kl K) G x) rfl rfl (by simp [Value.category]) rfl rfl ⟨by decide, by decide⟩ dX6_nextBase_1 (fun r1 Gc1 q1 => ?_)
  obtain ⟨er1, eGc1⟩ := q1
  rw [eGc1]
  subst er1
  refine x_if_ne (pc := 4) hc dX6_nextBase_4 9 (by decide) (fun c4 => ?_) (fun c4 => ?_)
  · obtain ⟨d, hd, rfl⟩ := inB_nat (n := 19) rfl c4
    have zd : (nI d).toNatClampNeg = d := nI_clamp (by omega)
    refine x_aload_n (pc := 9) hc dX6_nextBase_9 0 rfl ?_
    refine x_iconst (v := 0) (pc := 10) hc dX6_nextBase_10 (by decide) ?_
    refine x_callVv (pc := 11) hc cl_X6_58 cfR kcX6 [.int 0] (gm_0 G ▸ m_X6_looksNow hI (kl K) G (dN (G 240)) 0 (G 240) (G 240) (G 244) (by omega) (by omega) h300) rfl rfl (by simp [Value.category]) rfl rfl ⟨by decide, by decide⟩ dX6_nextBase_11 (fun Gc11 q11 => ?_)
    rw [q11]
    refine x_aload_n (pc := 14) hc dX6_nextBase_14 0 rfl ?_
    refine x_aload_n (pc := 15) hc dX6_nextBase_15 0 rfl ?_
    refine x_get (pc := 16) hc cfR kcX6 0 (by decide) fl_X6_7 rfl dX6_nextBase_16 ?_
    refine x_iconst (v := 0) (pc := 19) hc dX6_nextBase_19 (by decide) ?_
    refine x_iload_n (pc := 20) hc dX6_nextBase_20 1 rfl ?_
    refine x_iadd (pc := 21) hc dX6_nextBase_21 ?_
    refine x_as (nI d) (Int32.zero_add _) ?_
    refine x_iald (pc := 22) hc af0 (vp_in_nI (by omega) (by decide)) dX6_nextBase_22 ?_
    refine x_as ((G 240) d) (gm_ld (by omega) (by omega)) ?_
    refine x_iload_n (pc := 23) hc dX6_nextBase_23 1 rfl ?_
    refine x_aload_n (pc := 24) hc dX6_nextBase_24 0 rfl ?_
    refine x_get (pc := 25) hc cfR kcX6 0 (by decide) fl_X6_7 rfl dX6_nextBase_25 ?_
    refine x_sipush (v := 304) (pc := 28) hc dX6_nextBase_28 (by decide) ?_
    refine x_as (nI 304) rfl ?_
    refine x_iald (pc := 31) hc af0 (vp_in_nI (by omega) (by decide)) dX6_nextBase_31 ?_
    refine x_as ((G 240) 304) (gm_ld (by omega) (by omega)) ?_
    refine x_callVi (pc := 32) hc cl_X6_62 cfR kcX6 [.int ((G 240) d), .int (nI d), .int ((G 240) 304)] (m_X6_mended hI (kl K) (GM G 0 (G 240) (G 240) (lnRow (G 240) (G 244) (dN (G 240)) 20)) ((G 240) d) ((G 240) 304) d (rN (G 240)) (by omega) hrN (h303.at (p := 0) (s := G 240) (f := G 240) (r := rN (G 240)) ⟨hrN, Or.inl ⟨rfl, h303a⟩⟩ rfl _ _)) rfl rfl (by simp [Value.category]) rfl rfl ⟨by decide, by decide⟩ dX6_nextBase_32 (fun r32 Gc32 q32 => ?_)
    obtain ⟨er32, eGc32⟩ := q32
    rw [eGc32]
    subst er32
    refine x_as (bnd (((G 240) d) + mean ((lnRow (G 240) (G 244) (dN (G 240)) 20)) d (rN (G 240)) * ((G 240) 304) / 100)) rfl ?_
    refine x_sipush (v := 1000) (pc := 35) hc dX6_nextBase_35 (by decide) ?_
    refine x_iadd (pc := 38) hc dX6_nextBase_38 ?_
    exact hret _ _ _ _ dX6_nextBase_39 ⟨(by unfold qNext; rw [if_neg c4, zd]; exact congrArg (fun z => bnd (G 240 d + z * G 240 304 / 100) + 1000) (mean_congr _ _ (fun j hj => lnRow_d _ _ hj))), PMq_same hR (gm_same G _)⟩
  · refine x_iconst (v := (-1)) (pc := 7) hc dX6_nextBase_7 (by decide) ?_
    exact hret _ _ _ _ dX6_nextBase_8 ⟨(by unfold qNext; rw [if_pos (c4)]), PMq_same hR (fun _ _ => rfl)⟩
set_option maxHeartbeats 4000000 in
set_option maxRecDepth 100000 in
theorem m_X6_wrongs {w : WT} (hI : xI w) (l : Launch) (G : GS) (t : Int32) : Mi w l yX6_wrongs cX6_wrongs 6 (some .int) ⟨0, 0, 0, 0⟩ [.ref (w.2.2 239), .int t] G (fun v9 G' => v9 = wr (G 240) t 20 ∧ G' = G) := by
  refine mk_i (L0 := [(0, .ref (w.2.2 239)), (1, .int t)]) hI (by decide +kernel) rfl (Nat.le_of_ble_eq_true rfl) (fun _ _ _ => rfl) (fun K hc hret => ?_)
  refine x_iconst (v := 0) (pc := 0) hc dX6_wrongs_0 (by decide) ?_
  refine x_istore_n (pc := 1) (L' := [(2, .int 0), (0, .ref (w.2.2 239)), (1, .int t)]) hc dX6_wrongs_1 (by decide) rfl ?_
  refine x_iconst (v := 0) (pc := 2) hc dX6_wrongs_2 (by decide) ?_
  refine x_istore_n (pc := 3) (L' := [(3, .int 0), (2, .int 0), (0, .ref (w.2.2 239)), (1, .int t)]) hc dX6_wrongs_3 (by decide) rfl ?_
  have loop4 : ∀ (n1 : Nat) (k : Nat), k ≤ 20 → 20 < k + n1 → XX w K 6 G 4 [(3, .int (nI k)), (2, .int (wr (G 240) t k)), (0, .ref (w.2.2 239)), (1, .int t)] [] := by
    intro n1
    induction n1 with
    | zero => intro k hk hf; omega
    | succ n1 ih =>
      intro k hk hf
      refine x_iload_n (pc := 4) hc dX6_wrongs_4 0 rfl ?_
      refine x_bipush (v := 20) (pc := 5) hc dX6_wrongs_5 (by decide) ?_
      refine x_icmp_ge (pc := 7) hc dX6_wrongs_7 73 (by decide) (fun c7 => ?_) (fun c7 => ?_)
      · have c7 : 20 ≤ k := (nI_leI (a := 20) (b := k) (by omega) (by omega)).mp c7
        refine x_iload_n (pc := 73) hc dX6_wrongs_73 1 rfl ?_
        exact hret _ _ _ _ dX6_wrongs_74 ⟨by rw [show (20 : Nat) = k by omega], rfl⟩
      · have c7 : ¬ 20 ≤ k := fun h9 => c7 ((nI_leI (a := 20) (b := k) (by omega) (by omega)).mpr h9)
        refine x_aload_n (pc := 10) hc dX6_wrongs_10 2 rfl ?_
        refine x_get (pc := 11) hc cfR kcX6 0 (by decide) fl_X6_7 rfl dX6_wrongs_11 ?_
        refine x_bipush (v := 60) (pc := 14) hc dX6_wrongs_14 (by decide) ?_
        refine x_iload_n (pc := 16) hc dX6_wrongs_16 0 rfl ?_
        refine x_iadd (pc := 17) hc dX6_wrongs_17 ?_
        refine x_as (nI (60 + k)) (nI_add _ _) ?_
        refine x_iald (pc := 18) hc af0 (vp_in_nI (by omega) (by decide)) dX6_wrongs_18 ?_
        refine x_as (G 240 (60 + k)) (congrArg _ (nI_clamp (by omega))) ?_
        refine x_nm (fun x19 ex19 => ?_)
        refine x_istore (pc := 19) (L' := [(4, .int x19), (3, .int (nI k)), (2, .int (wr (G 240) t k)), (0, .ref (w.2.2 239)), (1, .int t)]) hc dX6_wrongs_19 (by decide) rfl ?_
        refine x_iload (pc := 21) hc dX6_wrongs_21 0 rfl ?_
        refine x_aload_n (pc := 23) hc dX6_wrongs_23 3 rfl ?_
        refine x_get (pc := 24) hc cfR kcX6 0 (by decide) fl_X6_7 rfl dX6_wrongs_24 ?_
        refine x_bipush (v := 80) (pc := 27) hc dX6_wrongs_27 (by decide) ?_
        refine x_iload_n (pc := 29) hc dX6_wrongs_29 1 rfl ?_
        refine x_iadd (pc := 30) hc dX6_wrongs_30 ?_
        refine x_as (nI (80 + k)) (nI_add _ _) ?_
        refine x_iald (pc := 31) hc af0 (vp_in_nI (by omega) (by decide)) dX6_wrongs_31 ?_
        refine x_as (G 240 (80 + k)) (congrArg _ (nI_clamp (by omega))) ?_
        refine x_isub (pc := 32) hc dX6_wrongs_32 ?_
        refine x_iload_n (pc := 33) hc dX6_wrongs_33 4 rfl ?_
        refine x_icmp_gt (pc := 34) hc dX6_wrongs_34 41 (by decide) (fun c34 => ?_) (fun c34 => ?_)
        · refine x_iconst (v := 0) (pc := 41) hc dX6_wrongs_41 (by decide) ?_
          refine x_istore (pc := 42) (L' := [(5, .int 0), (4, .int x19), (3, .int (nI k)), (2, .int (wr (G 240) t k)), (0, .ref (w.2.2 239)), (1, .int t)]) hc dX6_wrongs_42 (by decide) rfl ?_
          refine x_iload_n (pc := 44) hc dX6_wrongs_44 3 rfl ?_
          refine x_iload (pc := 45) hc dX6_wrongs_45 0 rfl ?_
          refine x_iload (pc := 47) hc dX6_wrongs_47 1 rfl ?_
          refine x_if_gt (pc := 49) hc dX6_wrongs_49 56 (by decide) (fun c49 => ?_) (fun c49 => ?_)
          · refine x_iconst (v := 0) (pc := 56) hc dX6_wrongs_56 (by decide) ?_
            refine x_icmp_ne (pc := 57) hc dX6_wrongs_57 64 (by decide) (fun c57 => ?_) (fun c57 => ?_)
            · exact absurd c57 (by decide)
            · refine x_iconst (v := 0) (pc := 60) hc dX6_wrongs_60 (by decide) ?_
              refine x_goto (pc := 61) hc dX6_wrongs_61 65 (by decide) ?_
              refine x_iadd (pc := 65) hc dX6_wrongs_65 ?_
              refine x_nm (fun x66 ex66 => ?_)
              refine x_istore_n (pc := 66) (L' := [(2, .int x66), (5, .int 0), (4, .int x19), (3, .int (nI k)), (0, .ref (w.2.2 239)), (1, .int t)]) hc dX6_wrongs_66 (by decide) rfl ?_
              refine x_iinc (pc := 67) (L' := [(3, .int (nI (k + 1))), (2, .int x66), (5, .int 0), (4, .int x19), (0, .ref (w.2.2 239)), (1, .int t)]) hc dX6_wrongs_67 3 rfl (nI (k + 1)) (nI_1 _) (by decide) rfl ?_
              refine x_goto (pc := 70) hc dX6_wrongs_70 4 (by decide) ?_
              refine x_loc [0, 1, 4, 5] rfl ?_
              have q1 : b01 (G 240 (60 + k) - G 240 (80 + k) ≤ t) = 0 := by
                rw [ex19] at c34
                exact b01_neg (Int32.not_le.mpr c34)
              have q2 : b01 (G 240 (60 + k) ≤ 0) = 0 := by
                rw [ex19] at c49
                exact b01_neg (Int32.not_le.mpr (c49))
              have e3 : x66 = wr (G 240) t (k + 1) := by
                rw [ex66]
                show _ = wr (G 240) t k + _
                rw [q1, q2, if_pos rfl]
              rw [e3]
              exact ih (k + 1) (by omega) (by omega)
          · refine x_iconst (v := 1) (pc := 52) hc dX6_wrongs_52 (by decide) ?_
            refine x_goto (pc := 53) hc dX6_wrongs_53 57 (by decide) ?_
            refine x_icmp_ne (pc := 57) hc dX6_wrongs_57 64 (by decide) (fun c57_1 => ?_) (fun c57_1 => ?_)
            · refine x_iconst (v := 1) (pc := 64) hc dX6_wrongs_64 (by decide) ?_
              refine x_iadd (pc := 65) hc dX6_wrongs_65 ?_
              refine x_nm (fun x66_1 ex66_1 => ?_)
              refine x_istore_n (pc := 66) (L' := [(2, .int x66_1), (5, .int 0), (4, .int x19), (3, .int (nI k)), (0, .ref (w.2.2 239)), (1, .int t)]) hc dX6_wrongs_66 (by decide) rfl ?_
              refine x_iinc (pc := 67) (L' := [(3, .int (nI (k + 1))), (2, .int x66_1), (5, .int 0), (4, .int x19), (0, .ref (w.2.2 239)), (1, .int t)]) hc dX6_wrongs_67 3 rfl (nI (k + 1)) (nI_1 _) (by decide) rfl ?_
              refine x_goto (pc := 70) hc dX6_wrongs_70 4 (by decide) ?_
              refine x_loc [0, 1, 4, 5] rfl ?_
              have q1 : b01 (G 240 (60 + k) - G 240 (80 + k) ≤ t) = 0 := by
                rw [ex19] at c34
                exact b01_neg (Int32.not_le.mpr c34)
              have q2 : b01 (G 240 (60 + k) ≤ 0) = 1 := by
                rw [ex19] at c49
                exact b01_pos (Int32.not_lt.mp (c49))
              have e3 : x66_1 = wr (G 240) t (k + 1) := by
                rw [ex66_1]
                show _ = wr (G 240) t k + _
                rw [q1, q2, if_neg (by decide)]
              rw [e3]
              exact ih (k + 1) (by omega) (by omega)
            · exact absurd c57_1 (by decide)
        · refine x_iconst (v := 1) (pc := 37) hc dX6_wrongs_37 (by decide) ?_
          refine x_goto (pc := 38) hc dX6_wrongs_38 42 (by decide) ?_
          refine x_istore (pc := 42) (L' := [(5, .int 1), (4, .int x19), (3, .int (nI k)), (2, .int (wr (G 240) t k)), (0, .ref (w.2.2 239)), (1, .int t)]) hc dX6_wrongs_42 (by decide) rfl ?_
          refine x_iload_n (pc := 44) hc dX6_wrongs_44 3 rfl ?_
          refine x_iload (pc := 45) hc dX6_wrongs_45 0 rfl ?_
          refine x_iload (pc := 47) hc dX6_wrongs_47 1 rfl ?_
          refine x_if_gt (pc := 49) hc dX6_wrongs_49 56 (by decide) (fun c49_1 => ?_) (fun c49_1 => ?_)
          · refine x_iconst (v := 0) (pc := 56) hc dX6_wrongs_56 (by decide) ?_
            refine x_icmp_ne (pc := 57) hc dX6_wrongs_57 64 (by decide) (fun c57_2 => ?_) (fun c57_2 => ?_)
            · refine x_iconst (v := 1) (pc := 64) hc dX6_wrongs_64 (by decide) ?_
              refine x_iadd (pc := 65) hc dX6_wrongs_65 ?_
              refine x_nm (fun x66_2 ex66_2 => ?_)
              refine x_istore_n (pc := 66) (L' := [(2, .int x66_2), (5, .int 1), (4, .int x19), (3, .int (nI k)), (0, .ref (w.2.2 239)), (1, .int t)]) hc dX6_wrongs_66 (by decide) rfl ?_
              refine x_iinc (pc := 67) (L' := [(3, .int (nI (k + 1))), (2, .int x66_2), (5, .int 1), (4, .int x19), (0, .ref (w.2.2 239)), (1, .int t)]) hc dX6_wrongs_67 3 rfl (nI (k + 1)) (nI_1 _) (by decide) rfl ?_
              refine x_goto (pc := 70) hc dX6_wrongs_70 4 (by decide) ?_
              refine x_loc [0, 1, 4, 5] rfl ?_
              have q1 : b01 (G 240 (60 + k) - G 240 (80 + k) ≤ t) = 1 := by
                rw [ex19] at c34
                exact b01_pos (Int32.not_lt.mp c34)
              have q2 : b01 (G 240 (60 + k) ≤ 0) = 0 := by
                rw [ex19] at c49_1
                exact b01_neg (Int32.not_le.mpr (c49_1))
              have e3 : x66_2 = wr (G 240) t (k + 1) := by
                rw [ex66_2]
                show _ = wr (G 240) t k + _
                rw [q1, q2, if_neg (by decide)]
              rw [e3]
              exact ih (k + 1) (by omega) (by omega)
            · exact absurd c57_2 (by decide)
          · refine x_iconst (v := 1) (pc := 52) hc dX6_wrongs_52 (by decide) ?_
            refine x_goto (pc := 53) hc dX6_wrongs_53 57 (by decide) ?_
            refine x_icmp_ne (pc := 57) hc dX6_wrongs_57 64 (by decide) (fun c57_3 => ?_) (fun c57_3 => ?_)
            · exact absurd c57_3 (by decide)
            · refine x_iconst (v := 0) (pc := 60) hc dX6_wrongs_60 (by decide) ?_
              refine x_goto (pc := 61) hc dX6_wrongs_61 65 (by decide) ?_
              refine x_iadd (pc := 65) hc dX6_wrongs_65 ?_
              refine x_nm (fun x66_3 ex66_3 => ?_)
              refine x_istore_n (pc := 66) (L' := [(2, .int x66_3), (5, .int 1), (4, .int x19), (3, .int (nI k)), (0, .ref (w.2.2 239)), (1, .int t)]) hc dX6_wrongs_66 (by decide) rfl ?_
              refine x_iinc (pc := 67) (L' := [(3, .int (nI (k + 1))), (2, .int x66_3), (5, .int 1), (4, .int x19), (0, .ref (w.2.2 239)), (1, .int t)]) hc dX6_wrongs_67 3 rfl (nI (k + 1)) (nI_1 _) (by decide) rfl ?_
              refine x_goto (pc := 70) hc dX6_wrongs_70 4 (by decide) ?_
              refine x_loc [0, 1, 4, 5] rfl ?_
              have q1 : b01 (G 240 (60 + k) - G 240 (80 + k) ≤ t) = 1 := by
                rw [ex19] at c34
                exact b01_pos (Int32.not_lt.mp c34)
              have q2 : b01 (G 240 (60 + k) ≤ 0) = 1 := by
                rw [ex19] at c49_1
                exact b01_pos (Int32.not_lt.mp (c49_1))
              have e3 : x66_3 = wr (G 240) t (k + 1) := by
                rw [ex66_3]
                show _ = wr (G 240) t k + _
                rw [q1, q2, if_pos rfl]
              rw [e3]
              exact ih (k + 1) (by omega) (by omega)
  refine x_loc [0, 1, 2, 3] rfl ?_
  exact loop4 21 0 (by omega) (by omega)
