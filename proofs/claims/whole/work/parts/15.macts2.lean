theorem canSet_01 (x v : Int32) : canSet x v = 0 ∨ canSet x v = 1 := by
  unfold canSet
  repeat' split
  all_goals first | exact b01_le _ | exact Or.inl rfl
theorem canSet_f {x v : Int32} (h : ¬ canSet x v = 0) : ∃ i, i < 4 ∧ x = nI i := by
  unfold canSet at h
  by_cases h0 : x = 0
  · exact ⟨0, by omega, h0⟩
  by_cases h1 : x = 1
  · exact ⟨1, by omega, h1⟩
  by_cases h2 : x = 2
  · exact ⟨2, by omega, h2⟩
  by_cases h3 : x = 3
  · exact ⟨3, by omega, h3⟩
  rw [if_neg h0, if_neg h1, if_neg h2, if_neg h3] at h
  exact absurd rfl h
set_option maxHeartbeats 4000000 in
set_option maxRecDepth 100000 in
theorem m_X6_canSet {w : WT} (hI : xI w) (l : Launch) (G : GS) (x v : Int32) : Mi w l yX6_canSet cX6_canSet 2 (some .boolean) ⟨1, 0, 0, 22⟩ [.int x, .int v] G (fun v9 G' => v9 = canSet x v ∧ G' = G) := by
  refine mk_i (L0 := [(0, .int x), (1, .int v)]) hI (by decide +kernel) rfl (Nat.le_of_ble_eq_true rfl) (fun v G9 h => by rw [h.1]; exact nz_b (canSet_01 _ _)) (fun K hc hret => ?_)
  refine x_iload_n (pc := 0) hc dX6_canSet_0 0 rfl ?_
  by_cases s1_0 : x = 0
  · subst s1_0
    refine x_tableIn (pc := 1) hc dX6_canSet_1 (by decide) (by decide) rfl 28 (by decide) ?_
    refine x_iload_n (pc := 28) hc dX6_canSet_28 1 rfl ?_
    refine x_iconst (v := 0) (pc := 29) hc dX6_canSet_29 (by decide) ?_
    refine x_bipush (v := 9) (pc := 30) hc dX6_canSet_30 (by decide) ?_
    refine x_callSi (pc := 32) hc cl_X6_29 [.int v, .int 0, .int 9] (m_X6_in hI (kl K) G v 0 9) rfl rfl (by simp [Value.category]) rfl rfl ⟨by decide, by decide⟩ dX6_canSet_32 (fun r32 Gc32 q32 => ?_)
    obtain ⟨er32, eGc32⟩ := q32
    rw [eGc32]
    subst er32
    exact hret _ _ _ _ dX6_canSet_35 ⟨(by unfold canSet; first | exact (if_pos rfl).symm | (rw [if_neg (by decide)]; exact (if_pos rfl).symm) | (rw [if_neg (by decide), if_neg (by decide)]; exact (if_pos rfl).symm)), rfl⟩
  by_cases s1_1 : x = 1
  · subst s1_1
    refine x_tableIn (pc := 1) hc dX6_canSet_1 (by decide) (by decide) rfl 36 (by decide) ?_
    refine x_iload_n (pc := 36) hc dX6_canSet_36 1 rfl ?_
    refine x_iconst (v := 0) (pc := 37) hc dX6_canSet_37 (by decide) ?_
    refine x_bipush (v := 100) (pc := 38) hc dX6_canSet_38 (by decide) ?_
    refine x_callSi (pc := 40) hc cl_X6_29 [.int v, .int 0, .int 100] (m_X6_in hI (kl K) G v 0 100) rfl rfl (by simp [Value.category]) rfl rfl ⟨by decide, by decide⟩ dX6_canSet_40 (fun r40 Gc40 q40 => ?_)
    obtain ⟨er40, eGc40⟩ := q40
    rw [eGc40]
    subst er40
    exact hret _ _ _ _ dX6_canSet_43 ⟨(by unfold canSet; first | exact (if_pos rfl).symm | (rw [if_neg (by decide)]; exact (if_pos rfl).symm) | (rw [if_neg (by decide), if_neg (by decide)]; exact (if_pos rfl).symm)), rfl⟩
  by_cases s1_2 : x = 2
  · subst s1_2
    refine x_tableIn (pc := 1) hc dX6_canSet_1 (by decide) (by decide) rfl 44 (by decide) ?_
    refine x_iload_n (pc := 44) hc dX6_canSet_44 1 rfl ?_
    refine x_bipush (v := (-20)) (pc := 45) hc dX6_canSet_45 (by decide) ?_
    refine x_bipush (v := 20) (pc := 47) hc dX6_canSet_47 (by decide) ?_
    refine x_callSi (pc := 49) hc cl_X6_29 [.int v, .int (-20), .int 20] (m_X6_in hI (kl K) G v (-20) 20) rfl rfl (by simp [Value.category]) rfl rfl ⟨by decide, by decide⟩ dX6_canSet_49 (fun r49 Gc49 q49 => ?_)
    obtain ⟨er49, eGc49⟩ := q49
    rw [eGc49]
    subst er49
    exact hret _ _ _ _ dX6_canSet_52 ⟨(by unfold canSet; first | exact (if_pos rfl).symm | (rw [if_neg (by decide)]; exact (if_pos rfl).symm) | (rw [if_neg (by decide), if_neg (by decide)]; exact (if_pos rfl).symm)), rfl⟩
  have t1_0 : x.toInt ≠ 0 := fun z => s1_0 (Int32.toInt_inj.mp z)
  have t1_1 : x.toInt ≠ 1 := fun z => s1_1 (Int32.toInt_inj.mp z)
  have t1_2 : x.toInt ≠ 2 := fun z => s1_2 (Int32.toInt_inj.mp z)
  refine x_tableOut (pc := 1) hc dX6_canSet_1 (by omega) 53 (by decide) ?_
  refine x_iload_n (pc := 53) hc dX6_canSet_53 0 rfl ?_
  refine x_iconst (v := 3) (pc := 54) hc dX6_canSet_54 (by decide) ?_
  refine x_icmp_ne (pc := 55) hc dX6_canSet_55 72 (by decide) (fun c55 => ?_) (fun c55 => ?_)
  · refine x_iconst (v := 0) (pc := 72) hc dX6_canSet_72 (by decide) ?_
    exact hret _ _ _ _ dX6_canSet_73 ⟨(by unfold canSet; rw [if_neg s1_0, if_neg s1_1, if_neg s1_2, if_neg c55]), rfl⟩
  · refine x_iload_n (pc := 58) hc dX6_canSet_58 1 rfl ?_
    refine x_iconst (v := 1) (pc := 59) hc dX6_canSet_59 (by decide) ?_
    refine x_bipush (v := 9) (pc := 60) hc dX6_canSet_60 (by decide) ?_
    refine x_callSi (pc := 62) hc cl_X6_29 [.int v, .int 1, .int 9] (m_X6_in hI (kl K) G v 1 9) rfl rfl (by simp [Value.category]) rfl rfl ⟨by decide, by decide⟩ dX6_canSet_62 (fun r62 Gc62 q62 => ?_)
    obtain ⟨er62, eGc62⟩ := q62
    rw [eGc62]
    subst er62
    refine x_if_eq (pc := 65) hc dX6_canSet_65 72 (by decide) (fun c65 => ?_) (fun c65 => ?_)
    · refine x_iconst (v := 0) (pc := 72) hc dX6_canSet_72 (by decide) ?_
      exact hret _ _ _ _ dX6_canSet_73 ⟨(by unfold canSet; rw [if_neg s1_0, if_neg s1_1, if_neg s1_2, if_pos c55]; exact c65.symm), rfl⟩
    · refine x_iconst (v := 1) (pc := 68) hc dX6_canSet_68 (by decide) ?_
      refine x_goto (pc := 69) hc dX6_canSet_69 73 (by decide) ?_
      exact hret _ _ _ _ dX6_canSet_73 ⟨(by unfold canSet; rw [if_neg s1_0, if_neg s1_1, if_neg s1_2, if_pos c55]; exact (b01_pos (b01_f c65)).symm), rfl⟩
set_option maxHeartbeats 4000000 in
set_option maxRecDepth 100000 in
theorem M_bet {w : WT} (hI : xI w) (l : Launch) (G : GS) (x z n : Int32) (hz : z = 0 ∨ z = 1) (B : Nat) (hR : MR G) (hV : AV (aOf G) B) : Mi w l yX6_bet cX6_bet 5 (some .int) ⟨2, 0, 0, 42⟩ [.ref (w.2.2 239), .int x, .int z, .int n] G (fun v9 G' => v9 = qBet (aOf G) x z n ∧ PMq G G' (tBet (aOf G) x z n)) := by
  refine mk_i (L0 := [(0, .ref (w.2.2 239)), (1, .int x), (2, .int z), (3, .int n)]) hI (by decide +kernel) rfl (Nat.le_of_ble_eq_true rfl) (fun _ _ _ => rfl) (fun K hc hret => ?_)
  have hn : aN (aOf G) ≤ 4 := hV.1
  have h300 : G 240 300 = nI (dN (G 240)) := hV.2.1.1.2
  have hdN : dN (G 240) < 20 := hV.2.1.1.1
  have h303a : G 240 303 = nI (rN (G 240)) := hV.2.1.2.2.1.2
  have hrN : rN (G 240) ≤ 9 := hV.2.1.2.2.1.1
  have hsn : rSn (G 240) (cN (G 240)) := hV.2.1.2.2.2.2.1
  have hcN := hsn.1
  refine x_iload_n (pc := 0) hc dX6_bet_0 1 rfl ?_
  refine x_callSi (pc := 1) hc cl_X6_91 [.int x] (m_X6_isReader hI (kl K) G x) rfl rfl (by simp [Value.category]) rfl rfl ⟨by decide, by decide⟩ dX6_bet_1 (fun r1 Gc1 q1 => ?_)
  obtain ⟨er1, eGc1⟩ := q1
  rw [eGc1]
  subst er1
  refine x_if_ne (pc := 4) hc dX6_bet_4 9 (by decide) (fun c4 => ?_) (fun c4 => ?_)
  · obtain ⟨d, hd, rfl⟩ := inB_nat (n := 3) rfl c4
    have zd : (nI d).toNatClampNeg = d := nI_clamp (by omega)
    refine x_iload_n (pc := 9) hc dX6_bet_9 3 rfl ?_
    refine x_iconst (v := 1) (pc := 10) hc dX6_bet_10 (by decide) ?_
    refine x_sipush (v := 1000) (pc := 11) hc dX6_bet_11 (by decide) ?_
    refine x_callSi (pc := 14) hc cl_X6_29 [.int n, .int 1, .int 1000] (m_X6_in hI (kl K) G n 1 1000) rfl rfl (by simp [Value.category]) rfl rfl ⟨by decide, by decide⟩ dX6_bet_14 (fun r14 Gc14 q14 => ?_)
    obtain ⟨er14, eGc14⟩ := q14
    rw [eGc14]
    subst er14
    refine x_if_ne (pc := 17) hc dX6_bet_17 23 (by decide) (fun c17 => ?_) (fun c17 => ?_)
    · refine x_iconst (v := 0) (pc := 23) hc dX6_bet_23 (by decide) ?_
      refine x_iload_n (pc := 24) hc dX6_bet_24 1 rfl ?_
      refine x_callSi (pc := 25) hc cl_X6_25 [.int 0, .int (nI d)] (m_X6_reader hI (kl K) G 0 d) rfl rfl (by simp [Value.category]) rfl rfl ⟨by decide, by decide⟩ dX6_bet_25 (fun r25 Gc25 q25 => ?_)
      obtain ⟨er25, eGc25⟩ := q25
      rw [eGc25]
      subst er25
      refine x_as (nI (328 + 5 * d)) (congrArg nI (by omega)) ?_
      refine x_istore (pc := 28) (L' := [(4, .int (nI (328 + 5 * d))), (0, .ref (w.2.2 239)), (1, .int (nI d)), (2, .int z), (3, .int n)]) hc dX6_bet_28 (by decide) rfl ?_
      refine x_aload_n (pc := 30) hc dX6_bet_30 1 rfl ?_
      refine x_get (pc := 31) hc cfR kcX6 0 (by decide) fl_X6_7 rfl dX6_bet_31 ?_
      refine x_iload (pc := 34) hc dX6_bet_34 0 rfl ?_
      refine x_iconst (v := 1) (pc := 36) hc dX6_bet_36 (by decide) ?_
      refine x_iadd (pc := 37) hc dX6_bet_37 ?_
      refine x_as (nI (328 + 5 * d + 1)) (nI_add _ _) ?_
      refine x_iald (pc := 38) hc af0 (vp_in_nI (by omega) (by decide)) dX6_bet_38 ?_
      refine x_as (G 240 (328 + 5 * d + 1)) (congrArg _ (nI_clamp (by omega))) ?_
      refine x_if_gt (pc := 39) hc dX6_bet_39 55 (by decide) (fun c39 => ?_) (fun c39 => ?_)
      · refine x_bipush (v := (-4)) (pc := 55) hc dX6_bet_55 (by decide) ?_
        exact hret _ _ _ _ dX6_bet_57 ⟨(by
            unfold qBet
            rw [if_neg (c4), if_neg (c17), zd, if_pos (c39)]
            all_goals rfl), (by
            unfold tBet
            rw [if_neg (c4), if_neg (c17), zd, if_pos (c39)]
            exact PMq_same hR (fun _ _ => rfl))⟩
      · refine x_aload_n (pc := 42) hc dX6_bet_42 1 rfl ?_
        refine x_get (pc := 43) hc cfR kcX6 0 (by decide) fl_X6_7 rfl dX6_bet_43 ?_
        refine x_iload (pc := 46) hc dX6_bet_46 0 rfl ?_
        refine x_iconst (v := 0) (pc := 48) hc dX6_bet_48 (by decide) ?_
        refine x_iadd (pc := 49) hc dX6_bet_49 ?_
        refine x_as (nI (328 + 5 * d + 0)) (nI_add _ _) ?_
        refine x_iald (pc := 50) hc af0 (vp_in_nI (by omega) (by decide)) dX6_bet_50 ?_
        refine x_as (G 240 (328 + 5 * d + 0)) (congrArg _ (nI_clamp (by omega))) ?_
        refine x_iload_n (pc := 51) hc dX6_bet_51 4 rfl ?_
        refine x_icmp_ge (pc := 52) hc dX6_bet_52 58 (by decide) (fun c52 => ?_) (fun c52 => ?_)
        · refine x_aload_n (pc := 58) hc dX6_bet_58 1 rfl ?_
          refine x_callVv (pc := 59) hc cl_X6_79 cfR kcX6 [] (m_X6_remembers hI (kl K) G (aN (aOf G)) hn hR.1) rfl rfl (by simp [Value.category]) rfl rfl ⟨by decide, by decide⟩ dX6_bet_59 (fun Gc59 q59 => ?_)
          rw [q59]
          refine x_G (rem_gm G (aN (aOf G))) ?_
          refine x_aload_n (pc := 62) hc dX6_bet_62 1 rfl ?_
          refine x_get (pc := 63) hc cfR kcX6 0 (by decide) fl_X6_7 rfl dX6_bet_63 ?_
          refine x_iload (pc := 66) hc dX6_bet_66 0 rfl ?_
          refine x_iconst (v := 0) (pc := 68) hc dX6_bet_68 (by decide) ?_
          refine x_iadd (pc := 69) hc dX6_bet_69 ?_
          refine x_as (nI (328 + 5 * d + 0)) (nI_add _ _) ?_
          refine x_dup2ir (pc := 70) hc dX6_bet_70 ?_
          refine x_iald (pc := 71) hc af0 (vp_in_nI (by omega) (by decide)) dX6_bet_71 ?_
          refine x_as ((G 240) (328 + 5 * d + 0)) (gm_ld (by omega) (by omega)) ?_
          refine x_iload_n (pc := 72) hc dX6_bet_72 4 rfl ?_
          refine x_isub (pc := 73) hc dX6_bet_73 ?_
          refine x_iast (pc := 74) hc af0 (vp_in_nI (by omega) (by decide)) dX6_bet_74 ?_
          refine x_G (gm_st (i := 328 + 5 * d + 0) (by omega) (by omega)) ?_
          refine x_fn (fun z => GM (remG G (aN (aOf G))) 0 (G 240) z (G 244)) (fun f1 ef1 => ?_)
          refine x_aload_n (pc := 75) hc dX6_bet_75 1 rfl ?_
          refine x_get (pc := 76) hc cfR kcX6 0 (by decide) fl_X6_7 rfl dX6_bet_76 ?_
          refine x_iload (pc := 79) hc dX6_bet_79 0 rfl ?_
          refine x_iconst (v := 1) (pc := 81) hc dX6_bet_81 (by decide) ?_
          refine x_iadd (pc := 82) hc dX6_bet_82 ?_
          refine x_as (nI (328 + 5 * d + 1)) (nI_add _ _) ?_
          refine x_iload_n (pc := 83) hc dX6_bet_83 4 rfl ?_
          refine x_iast (pc := 84) hc af0 (vp_in_nI (by omega) (by decide)) dX6_bet_84 ?_
          refine x_G (gm_st (i := 328 + 5 * d + 1) (by omega) (by omega)) ?_
          refine x_fn (fun z => GM (remG G (aN (aOf G))) 0 (G 240) z (G 244)) (fun f2 ef2 => ?_)
          refine x_aload_n (pc := 85) hc dX6_bet_85 1 rfl ?_
          refine x_get (pc := 86) hc cfR kcX6 0 (by decide) fl_X6_7 rfl dX6_bet_86 ?_
          refine x_iload (pc := 89) hc dX6_bet_89 0 rfl ?_
          refine x_iconst (v := 2) (pc := 91) hc dX6_bet_91 (by decide) ?_
          refine x_iadd (pc := 92) hc dX6_bet_92 ?_
          refine x_as (nI (328 + 5 * d + 2)) (nI_add _ _) ?_
          refine x_iload_n (pc := 93) hc dX6_bet_93 3 rfl ?_
          refine x_if_eq (pc := 94) hc dX6_bet_94 101 (by decide) (fun c94 => ?_) (fun c94 => ?_)
          · subst c94
            refine x_iconst (v := 0) (pc := 101) hc dX6_bet_101 (by decide) ?_
            refine x_iast (pc := 102) hc af0 (vp_in_nI (by omega) (by decide)) dX6_bet_102 ?_
            refine x_G (gm_st (i := 328 + 5 * d + 2) (by omega) (by omega)) ?_
            refine x_fn (fun z => GM (remG G (aN (aOf G))) 0 (G 240) z (G 244)) (fun f3 ef3 => ?_)
            refine x_aload_n (pc := 103) hc dX6_bet_103 1 rfl ?_
            refine x_get (pc := 104) hc cfR kcX6 0 (by decide) fl_X6_7 rfl dX6_bet_104 ?_
            refine x_iload (pc := 107) hc dX6_bet_107 0 rfl ?_
            refine x_iconst (v := 0) (pc := 109) hc dX6_bet_109 (by decide) ?_
            refine x_iadd (pc := 110) hc dX6_bet_110 ?_
            refine x_as (nI (328 + 5 * d + 0)) (nI_add _ _) ?_
            refine x_iald (pc := 111) hc af0 (vp_in_nI (by omega) (by decide)) dX6_bet_111 ?_
            refine x_as (f3 (328 + 5 * d + 0)) (gm_ld (by omega) (by omega)) ?_
            refine x_as ((G 240) (328 + 5 * d + 0) - n) (by
              subst ef1
              subst ef2
              subst ef3
              rw [upd_n _ _ (by omega), upd_n _ _ (by omega), upd_s]) ?_
            exact hret _ _ _ _ dX6_bet_112 ⟨(by
                subst ef1
                subst ef2
                subst ef3
                unfold qBet
                rw [if_neg (c4), if_neg (c17), zd, if_neg (c39), if_neg (Int32.not_lt.mpr c52)]
                all_goals rfl), (by
                subst ef1
                subst ef2
                subst ef3
                unfold tBet
                rw [if_neg (c4), if_neg (c17), zd, if_neg (c39), if_neg (Int32.not_lt.mpr c52)]
                exact PMq_gm hR hn)⟩
          · have hz1 : z = 1 := hz.resolve_left c94
            subst hz1
            refine x_iconst (v := 1) (pc := 97) hc dX6_bet_97 (by decide) ?_
            refine x_goto (pc := 98) hc dX6_bet_98 102 (by decide) ?_
            refine x_iast (pc := 102) hc af0 (vp_in_nI (by omega) (by decide)) dX6_bet_102 ?_
            refine x_G (gm_st (i := 328 + 5 * d + 2) (by omega) (by omega)) ?_
            refine x_fn (fun z => GM (remG G (aN (aOf G))) 0 (G 240) z (G 244)) (fun f4 ef4 => ?_)
            refine x_aload_n (pc := 103) hc dX6_bet_103 1 rfl ?_
            refine x_get (pc := 104) hc cfR kcX6 0 (by decide) fl_X6_7 rfl dX6_bet_104 ?_
            refine x_iload (pc := 107) hc dX6_bet_107 0 rfl ?_
            refine x_iconst (v := 0) (pc := 109) hc dX6_bet_109 (by decide) ?_
            refine x_iadd (pc := 110) hc dX6_bet_110 ?_
            refine x_as (nI (328 + 5 * d + 0)) (nI_add _ _) ?_
            refine x_iald (pc := 111) hc af0 (vp_in_nI (by omega) (by decide)) dX6_bet_111 ?_
            refine x_as (f4 (328 + 5 * d + 0)) (gm_ld (by omega) (by omega)) ?_
            refine x_as ((G 240) (328 + 5 * d + 0) - n) (by
              subst ef1
              subst ef2
              subst ef4
              rw [upd_n _ _ (by omega), upd_n _ _ (by omega), upd_s]) ?_
            exact hret _ _ _ _ dX6_bet_112 ⟨(by
                subst ef1
                subst ef2
                subst ef4
                unfold qBet
                rw [if_neg (c4), if_neg (c17), zd, if_neg (c39), if_neg (Int32.not_lt.mpr c52)]
                all_goals rfl), (by
                subst ef1
                subst ef2
                subst ef4
                unfold tBet
                rw [if_neg (c4), if_neg (c17), zd, if_neg (c39), if_neg (Int32.not_lt.mpr c52)]
                exact PMq_gm hR hn)⟩
        · refine x_bipush (v := (-4)) (pc := 55) hc dX6_bet_55 (by decide) ?_
          exact hret _ _ _ _ dX6_bet_57 ⟨(by
              unfold qBet
              rw [if_neg (c4), if_neg (c17), zd, if_neg (c39), if_pos (Int32.not_le.mp c52)]
              all_goals rfl), (by
              unfold tBet
              rw [if_neg (c4), if_neg (c17), zd, if_neg (c39), if_pos (Int32.not_le.mp c52)]
              exact PMq_same hR (fun _ _ => rfl))⟩
    · refine x_bipush (v := (-2)) (pc := 20) hc dX6_bet_20 (by decide) ?_
      exact hret _ _ _ _ dX6_bet_22 ⟨(by
          unfold qBet
          rw [if_neg (c4), if_pos (c17)]
          all_goals rfl), (by
          unfold tBet
          rw [if_neg (c4), if_pos (c17)]
          exact PMq_same hR (fun _ _ => rfl))⟩
  · refine x_iconst (v := (-1)) (pc := 7) hc dX6_bet_7 (by decide) ?_
    exact hret _ _ _ _ dX6_bet_8 ⟨(by
        unfold qBet
        rw [if_pos (c4)]
        all_goals rfl), (by
        unfold tBet
        rw [if_pos (c4)]
        exact PMq_same hR (fun _ _ => rfl))⟩
set_option maxHeartbeats 4000000 in
set_option maxRecDepth 100000 in
theorem M_takeBack {w : WT} (hI : xI w) (l : Launch) (G : GS) (x : Int32) (B : Nat) (hR : MR G) (hV : AV (aOf G) B) : Mi w l yX6_takeBack cX6_takeBack 3 (some .int) ⟨2, 0, 0, 42⟩ [.ref (w.2.2 239), .int x] G (fun v9 G' => v9 = qTake (aOf G) x ∧ PMq G G' (tTake (aOf G) x)) := by
  refine mk_i (L0 := [(0, .ref (w.2.2 239)), (1, .int x)]) hI (by decide +kernel) rfl (Nat.le_of_ble_eq_true rfl) (fun _ _ _ => rfl) (fun K hc hret => ?_)
  have hn : aN (aOf G) ≤ 4 := hV.1
  have h300 : G 240 300 = nI (dN (G 240)) := hV.2.1.1.2
  have hdN : dN (G 240) < 20 := hV.2.1.1.1
  have h303a : G 240 303 = nI (rN (G 240)) := hV.2.1.2.2.1.2
  have hrN : rN (G 240) ≤ 9 := hV.2.1.2.2.1.1
  have hsn : rSn (G 240) (cN (G 240)) := hV.2.1.2.2.2.2.1
  have hcN := hsn.1
  refine x_iload_n (pc := 0) hc dX6_takeBack_0 1 rfl ?_
  refine x_callSi (pc := 1) hc cl_X6_91 [.int x] (m_X6_isReader hI (kl K) G x) rfl rfl (by simp [Value.category]) rfl rfl ⟨by decide, by decide⟩ dX6_takeBack_1 (fun r1 Gc1 q1 => ?_)
  obtain ⟨er1, eGc1⟩ := q1
  rw [eGc1]
  subst er1
  refine x_if_ne (pc := 4) hc dX6_takeBack_4 9 (by decide) (fun c4 => ?_) (fun c4 => ?_)
  · obtain ⟨d, hd, rfl⟩ := inB_nat (n := 3) rfl c4
    have zd : (nI d).toNatClampNeg = d := nI_clamp (by omega)
    refine x_iconst (v := 0) (pc := 9) hc dX6_takeBack_9 (by decide) ?_
    refine x_iload_n (pc := 10) hc dX6_takeBack_10 1 rfl ?_
    refine x_callSi (pc := 11) hc cl_X6_25 [.int 0, .int (nI d)] (m_X6_reader hI (kl K) G 0 d) rfl rfl (by simp [Value.category]) rfl rfl ⟨by decide, by decide⟩ dX6_takeBack_11 (fun r11 Gc11 q11 => ?_)
    obtain ⟨er11, eGc11⟩ := q11
    rw [eGc11]
    subst er11
    refine x_as (nI (328 + 5 * d)) (congrArg nI (by omega)) ?_
    refine x_istore_n (pc := 14) (L' := [(2, .int (nI (328 + 5 * d))), (0, .ref (w.2.2 239)), (1, .int (nI d))]) hc dX6_takeBack_14 (by decide) rfl ?_
    refine x_aload_n (pc := 15) hc dX6_takeBack_15 1 rfl ?_
    refine x_get (pc := 16) hc cfR kcX6 0 (by decide) fl_X6_7 rfl dX6_takeBack_16 ?_
    refine x_iload_n (pc := 19) hc dX6_takeBack_19 0 rfl ?_
    refine x_iconst (v := 1) (pc := 20) hc dX6_takeBack_20 (by decide) ?_
    refine x_iadd (pc := 21) hc dX6_takeBack_21 ?_
    refine x_as (nI (328 + 5 * d + 1)) (nI_add _ _) ?_
    refine x_iald (pc := 22) hc af0 (vp_in_nI (by omega) (by decide)) dX6_takeBack_22 ?_
    refine x_as (G 240 (328 + 5 * d + 1)) (congrArg _ (nI_clamp (by omega))) ?_
    refine x_if_ne (pc := 23) hc dX6_takeBack_23 29 (by decide) (fun c23 => ?_) (fun c23 => ?_)
    · refine x_aload_n (pc := 29) hc dX6_takeBack_29 1 rfl ?_
      refine x_callVv (pc := 30) hc cl_X6_79 cfR kcX6 [] (m_X6_remembers hI (kl K) G (aN (aOf G)) hn hR.1) rfl rfl (by simp [Value.category]) rfl rfl ⟨by decide, by decide⟩ dX6_takeBack_30 (fun Gc30 q30 => ?_)
      rw [q30]
      refine x_G (rem_gm G (aN (aOf G))) ?_
      refine x_aload_n (pc := 33) hc dX6_takeBack_33 1 rfl ?_
      refine x_get (pc := 34) hc cfR kcX6 0 (by decide) fl_X6_7 rfl dX6_takeBack_34 ?_
      refine x_iload_n (pc := 37) hc dX6_takeBack_37 0 rfl ?_
      refine x_iconst (v := 0) (pc := 38) hc dX6_takeBack_38 (by decide) ?_
      refine x_iadd (pc := 39) hc dX6_takeBack_39 ?_
      refine x_as (nI (328 + 5 * d + 0)) (nI_add _ _) ?_
      refine x_dup2ir (pc := 40) hc dX6_takeBack_40 ?_
      refine x_iald (pc := 41) hc af0 (vp_in_nI (by omega) (by decide)) dX6_takeBack_41 ?_
      refine x_as ((G 240) (328 + 5 * d + 0)) (gm_ld (by omega) (by omega)) ?_
      refine x_aload_n (pc := 42) hc dX6_takeBack_42 1 rfl ?_
      refine x_get (pc := 43) hc cfR kcX6 0 (by decide) fl_X6_7 rfl dX6_takeBack_43 ?_
      refine x_iload_n (pc := 46) hc dX6_takeBack_46 0 rfl ?_
      refine x_iconst (v := 1) (pc := 47) hc dX6_takeBack_47 (by decide) ?_
      refine x_iadd (pc := 48) hc dX6_takeBack_48 ?_
      refine x_as (nI (328 + 5 * d + 1)) (nI_add _ _) ?_
      refine x_iald (pc := 49) hc af0 (vp_in_nI (by omega) (by decide)) dX6_takeBack_49 ?_
      refine x_as ((G 240) (328 + 5 * d + 1)) (gm_ld (by omega) (by omega)) ?_
      refine x_iadd (pc := 50) hc dX6_takeBack_50 ?_
      refine x_iast (pc := 51) hc af0 (vp_in_nI (by omega) (by decide)) dX6_takeBack_51 ?_
      refine x_G (gm_st (i := 328 + 5 * d + 0) (by omega) (by omega)) ?_
      refine x_fn (fun z => GM (remG G (aN (aOf G))) 0 (G 240) z (G 244)) (fun f1 ef1 => ?_)
      refine x_aload_n (pc := 52) hc dX6_takeBack_52 1 rfl ?_
      refine x_get (pc := 53) hc cfR kcX6 0 (by decide) fl_X6_7 rfl dX6_takeBack_53 ?_
      refine x_iload_n (pc := 56) hc dX6_takeBack_56 0 rfl ?_
      refine x_iconst (v := 1) (pc := 57) hc dX6_takeBack_57 (by decide) ?_
      refine x_iadd (pc := 58) hc dX6_takeBack_58 ?_
      refine x_as (nI (328 + 5 * d + 1)) (nI_add _ _) ?_
      refine x_iconst (v := 0) (pc := 59) hc dX6_takeBack_59 (by decide) ?_
      refine x_iast (pc := 60) hc af0 (vp_in_nI (by omega) (by decide)) dX6_takeBack_60 ?_
      refine x_G (gm_st (i := 328 + 5 * d + 1) (by omega) (by omega)) ?_
      refine x_fn (fun z => GM (remG G (aN (aOf G))) 0 (G 240) z (G 244)) (fun f2 ef2 => ?_)
      refine x_aload_n (pc := 61) hc dX6_takeBack_61 1 rfl ?_
      refine x_get (pc := 62) hc cfR kcX6 0 (by decide) fl_X6_7 rfl dX6_takeBack_62 ?_
      refine x_iload_n (pc := 65) hc dX6_takeBack_65 0 rfl ?_
      refine x_iconst (v := 2) (pc := 66) hc dX6_takeBack_66 (by decide) ?_
      refine x_iadd (pc := 67) hc dX6_takeBack_67 ?_
      refine x_as (nI (328 + 5 * d + 2)) (nI_add _ _) ?_
      refine x_iconst (v := 0) (pc := 68) hc dX6_takeBack_68 (by decide) ?_
      refine x_iast (pc := 69) hc af0 (vp_in_nI (by omega) (by decide)) dX6_takeBack_69 ?_
      refine x_G (gm_st (i := 328 + 5 * d + 2) (by omega) (by omega)) ?_
      refine x_fn (fun z => GM (remG G (aN (aOf G))) 0 (G 240) z (G 244)) (fun f3 ef3 => ?_)
      refine x_aload_n (pc := 70) hc dX6_takeBack_70 1 rfl ?_
      refine x_get (pc := 71) hc cfR kcX6 0 (by decide) fl_X6_7 rfl dX6_takeBack_71 ?_
      refine x_iload_n (pc := 74) hc dX6_takeBack_74 0 rfl ?_
      refine x_iconst (v := 0) (pc := 75) hc dX6_takeBack_75 (by decide) ?_
      refine x_iadd (pc := 76) hc dX6_takeBack_76 ?_
      refine x_as (nI (328 + 5 * d + 0)) (nI_add _ _) ?_
      refine x_iald (pc := 77) hc af0 (vp_in_nI (by omega) (by decide)) dX6_takeBack_77 ?_
      refine x_as (f3 (328 + 5 * d + 0)) (gm_ld (by omega) (by omega)) ?_
      refine x_as ((G 240) (328 + 5 * d + 0) + (G 240) (328 + 5 * d + 1)) (by
        subst ef1
        subst ef2
        subst ef3
        rw [upd_n _ _ (by omega), upd_n _ _ (by omega), upd_s]) ?_
      exact hret _ _ _ _ dX6_takeBack_78 ⟨(by
          subst ef1
          subst ef2
          subst ef3
          unfold qTake
          rw [if_neg (c4), zd, if_neg (c23)]
          all_goals rfl), (by
          subst ef1
          subst ef2
          subst ef3
          unfold tTake
          rw [if_neg (c4), zd, if_neg (c23)]
          exact PMq_gm hR hn)⟩
    · refine x_bipush (v := (-5)) (pc := 26) hc dX6_takeBack_26 (by decide) ?_
      exact hret _ _ _ _ dX6_takeBack_28 ⟨(by
          unfold qTake
          rw [if_neg (c4), zd, if_pos (c23)]
          all_goals rfl), (by
          unfold tTake
          rw [if_neg (c4), zd, if_pos (c23)]
          exact PMq_same hR (fun _ _ => rfl))⟩
  · refine x_iconst (v := (-1)) (pc := 7) hc dX6_takeBack_7 (by decide) ?_
    exact hret _ _ _ _ dX6_takeBack_8 ⟨(by
        unfold qTake
        rw [if_pos (c4)]
        all_goals rfl), (by
        unfold tTake
        rw [if_pos (c4)]
        exact PMq_same hR (fun _ _ => rfl))⟩
