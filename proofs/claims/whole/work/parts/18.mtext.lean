set_option maxHeartbeats 4000000 in
set_option maxRecDepth 100000 in
theorem m_X6_sign {w : WT} (hI : xI w) (l : Launch) (G : GS) (i : Nat) (ln : Nat) (hln : ln ≤ 60) (hl : G 239 6 = nI ln) (hi : i < 1000) : Mi w l yX6_sign cX6_sign 2 (some .int) ⟨0, 0, 0, 0⟩ [.ref (w.2.2 239), .int (nI i)] G (fun v9 G' => v9 = sg (G 243) ln i ∧ G' = G) := by
  refine mk_i (L0 := [(0, .ref (w.2.2 239)), (1, .int (nI i))]) hI (by decide +kernel) rfl (Nat.le_of_ble_eq_true rfl) (fun _ _ _ => rfl) (fun K hc hret => ?_)
  refine x_iload_n (pc := 0) hc dX6_sign_0 1 rfl ?_
  refine x_aload_n (pc := 1) hc dX6_sign_1 0 rfl ?_
  refine x_get (pc := 2) hc cfR kcX6 6 (by decide) fl_X6_94 rfl dX6_sign_2 ?_
  refine x_as (nI ln) hl ?_
  refine x_icmp_ge (pc := 5) hc dX6_sign_5 17 (by decide) (fun c5 => ?_) (fun c5 => ?_)
  · have c5 : ln ≤ i := (nI_leI (a := ln) (b := i) (by omega) (by omega)).mp c5
    refine x_iconst (v := (-1)) (pc := 17) hc dX6_sign_17 (by decide) ?_
    exact hret _ _ _ _ dX6_sign_18 ⟨(if_neg (by omega)).symm, rfl⟩
  · have c5 : ¬ ln ≤ i := fun h9 => c5 ((nI_leI (a := ln) (b := i) (by omega) (by omega)).mpr h9)
    refine x_aload_n (pc := 8) hc dX6_sign_8 0 rfl ?_
    refine x_get (pc := 9) hc cfR kcX6 5 (by decide) fl_X6_19 rfl dX6_sign_9 ?_
    refine x_iload_n (pc := 12) hc dX6_sign_12 1 rfl ?_
    refine x_iald (pc := 13) hc af3 (vp_in_nI (by omega) (by decide)) dX6_sign_13 ?_
    refine x_as (G 243 i) (congrArg _ (nI_clamp (by omega))) ?_
    refine x_goto (pc := 14) hc dX6_sign_14 18 (by decide) ?_
    exact hret _ _ _ _ dX6_sign_18 ⟨(if_pos (by omega)).symm, rfl⟩
set_option maxHeartbeats 4000000 in
set_option maxRecDepth 100000 in
theorem m_X6_digit {w : WT} (hI : xI w) (l : Launch) (G : GS) (i : Nat) (ln : Nat) (hln : ln ≤ 60) (hl : G 239 6 = nI ln) (hi : i < 1000) : Mi w l yX6_digit cX6_digit 2 (some .int) ⟨1, 0, 0, 22⟩ [.ref (w.2.2 239), .int (nI i)] G (fun v9 G' => v9 = dg (G 243) ln i ∧ G' = G) := by
  refine mk_i (L0 := [(0, .ref (w.2.2 239)), (1, .int (nI i))]) hI (by decide +kernel) rfl (Nat.le_of_ble_eq_true rfl) (fun _ _ _ => rfl) (fun K hc hret => ?_)
  refine x_aload_n (pc := 0) hc dX6_digit_0 0 rfl ?_
  refine x_iload_n (pc := 1) hc dX6_digit_1 1 rfl ?_
  refine x_callVi (pc := 2) hc cl_X6_97 cfR kcX6 [.int (nI i)] (m_X6_sign hI (kl K) G i ln hln hl (by omega)) rfl rfl (by simp [Value.category]) rfl rfl ⟨by decide, by decide⟩ dX6_digit_2 (fun r2 Gc2 q2 => ?_)
  obtain ⟨er2, eGc2⟩ := q2
  rw [eGc2]
  subst er2
  refine x_bipush (v := 48) (pc := 5) hc dX6_digit_5 (by decide) ?_
  refine x_bipush (v := 57) (pc := 7) hc dX6_digit_7 (by decide) ?_
  refine x_callSi (pc := 9) hc cl_X6_29 [.int (sg (G 243) ln i), .int 48, .int 57] (m_X6_in hI (kl K) G (sg (G 243) ln i) 48 57) rfl rfl (by simp [Value.category]) rfl rfl ⟨by decide, by decide⟩ dX6_digit_9 (fun r9 Gc9 q9 => ?_)
  obtain ⟨er9, eGc9⟩ := q9
  rw [eGc9]
  subst er9
  refine x_if_eq (pc := 12) hc dX6_digit_12 26 (by decide) (fun c12 => ?_) (fun c12 => ?_)
  · refine x_iconst (v := (-1)) (pc := 26) hc dX6_digit_26 (by decide) ?_
    exact hret _ _ _ _ dX6_digit_27 ⟨(by unfold dg; rw [if_pos c12]), rfl⟩
  · refine x_aload_n (pc := 15) hc dX6_digit_15 0 rfl ?_
    refine x_iload_n (pc := 16) hc dX6_digit_16 1 rfl ?_
    refine x_callVi (pc := 17) hc cl_X6_97 cfR kcX6 [.int (nI i)] (m_X6_sign hI (kl K) G i ln hln hl (by omega)) rfl rfl (by simp [Value.category]) rfl rfl ⟨by decide, by decide⟩ dX6_digit_17 (fun r17 Gc17 q17 => ?_)
    obtain ⟨er17, eGc17⟩ := q17
    rw [eGc17]
    subst er17
    refine x_bipush (v := 48) (pc := 20) hc dX6_digit_20 (by decide) ?_
    refine x_isub (pc := 22) hc dX6_digit_22 ?_
    refine x_goto (pc := 23) hc dX6_digit_23 27 (by decide) ?_
    exact hret _ _ _ _ dX6_digit_27 ⟨(by unfold dg; rw [if_neg c12]), rfl⟩
set_option maxHeartbeats 4000000 in
set_option maxRecDepth 100000 in
theorem m_X6_numberEnd {w : WT} (hI : xI w) (l : Launch) (G : GS) (pl : Nat) (lo hi : Int32) (ln : Nat) (hln : ln ≤ 60) (hl : G 239 6 = nI ln) (hi9 : pl < 900) : Mi w l yX6_numberEnd cX6_numberEnd 5 (some .int) ⟨2, 0, 0, 43⟩ [.ref (w.2.2 239), .int (nI pl), .int lo, .int hi] G (fun v9 G' => v9 = enc (nEnd (G 243) ln pl lo hi) ∧ G' = G) := by
  refine mk_i (L0 := [(0, .ref (w.2.2 239)), (1, .int (nI pl)), (2, .int lo), (3, .int hi)]) hI (by decide +kernel) rfl (Nat.le_of_ble_eq_true rfl) (fun _ _ _ => rfl) (fun K hc hret => ?_)
  refine x_aload_n (pc := 0) hc dX6_numberEnd_0 0 rfl ?_
  refine x_iload_n (pc := 1) hc dX6_numberEnd_1 1 rfl ?_
  refine x_callVi (pc := 2) hc cl_X6_100 cfR kcX6 [.int (nI pl)] (m_X6_digit hI (kl K) G pl ln hln hl (by omega)) rfl rfl (by simp [Value.category]) rfl rfl ⟨by decide, by decide⟩ dX6_numberEnd_2 (fun r2 Gc2 q2 => ?_)
  obtain ⟨er2, eGc2⟩ := q2
  rw [eGc2]
  subst er2
  refine x_if_lt (pc := 5) hc dX6_numberEnd_5 20 (by decide) (fun c5 => ?_) (fun c5 => ?_)
  · refine x_iconst (v := (-1)) (pc := 20) hc dX6_numberEnd_20 (by decide) ?_
    refine x_iload_n (pc := 21) hc dX6_numberEnd_21 1 rfl ?_
    refine x_isub (pc := 22) hc dX6_numberEnd_22 ?_
    exact hret _ _ _ _ dX6_numberEnd_23 ⟨(by
        unfold nEnd
        rw [if_pos c5]; rfl), rfl⟩
  · refine x_aload_n (pc := 8) hc dX6_numberEnd_8 0 rfl ?_
    refine x_iload_n (pc := 9) hc dX6_numberEnd_9 1 rfl ?_
    refine x_callVi (pc := 10) hc cl_X6_100 cfR kcX6 [.int (nI pl)] (m_X6_digit hI (kl K) G pl ln hln hl (by omega)) rfl rfl (by simp [Value.category]) rfl rfl ⟨by decide, by decide⟩ dX6_numberEnd_10 (fun r10 Gc10 q10 => ?_)
    obtain ⟨er10, eGc10⟩ := q10
    rw [eGc10]
    subst er10
    refine x_if_ne (pc := 13) hc dX6_numberEnd_13 24 (by decide) (fun c13 => ?_) (fun c13 => ?_)
    · refine x_aload_n (pc := 24) hc dX6_numberEnd_24 0 rfl ?_
      refine x_iload_n (pc := 25) hc dX6_numberEnd_25 1 rfl ?_
      refine x_callVi (pc := 26) hc cl_X6_100 cfR kcX6 [.int (nI pl)] (m_X6_digit hI (kl K) G pl ln hln hl (by omega)) rfl rfl (by simp [Value.category]) rfl rfl ⟨by decide, by decide⟩ dX6_numberEnd_26 (fun r26 Gc26 q26 => ?_)
      obtain ⟨er26, eGc26⟩ := q26
      rw [eGc26]
      subst er26
      refine x_if_le (pc := 29) hc dX6_numberEnd_29 66 (by decide) (fun c29 => ?_) (fun c29 => ?_)
      · refine x_iconst (v := 0) (pc := 66) hc dX6_numberEnd_66 (by decide) ?_
        refine x_istore (pc := 67) (L' := [(4, .int 0), (0, .ref (w.2.2 239)), (1, .int (nI pl)), (2, .int lo), (3, .int hi)]) hc dX6_numberEnd_67 (by decide) rfl ?_
        refine x_iload (pc := 69) hc dX6_numberEnd_69 0 rfl ?_
        refine x_if_eq (pc := 71) hc dX6_numberEnd_71 80 (by decide) (fun c71 => ?_) (fun c71 => ?_)
        · refine x_iload_n (pc := 80) hc dX6_numberEnd_80 2 rfl ?_
          refine x_iconst (v := 1) (pc := 81) hc dX6_numberEnd_81 (by decide) ?_
          refine x_iadd (pc := 82) hc dX6_numberEnd_82 ?_
          refine x_as (nI (pl + 1)) (nI_add _ _) ?_
          exact hret _ _ _ _ dX6_numberEnd_83 ⟨(by
              unfold nEnd
              rw [if_neg c5, if_neg (fun z => c13 z.1), if_neg (fun z => absurd z.1 (Int32.not_lt.mpr c29))]; rfl), rfl⟩
        · exact absurd (by decide) c71
      · refine x_aload_n (pc := 32) hc dX6_numberEnd_32 0 rfl ?_
        refine x_iload_n (pc := 33) hc dX6_numberEnd_33 1 rfl ?_
        refine x_iconst (v := 1) (pc := 34) hc dX6_numberEnd_34 (by decide) ?_
        refine x_iadd (pc := 35) hc dX6_numberEnd_35 ?_
        refine x_as (nI (pl + 1)) (nI_add _ _) ?_
        refine x_callVi (pc := 36) hc cl_X6_100 cfR kcX6 [.int (nI (pl + 1))] (m_X6_digit hI (kl K) G (pl + 1) ln hln hl (by omega)) rfl rfl (by simp [Value.category]) rfl rfl ⟨by decide, by decide⟩ dX6_numberEnd_36 (fun r36 Gc36 q36 => ?_)
        obtain ⟨er36, eGc36⟩ := q36
        rw [eGc36]
        subst er36
        refine x_if_lt (pc := 39) hc dX6_numberEnd_39 66 (by decide) (fun c39 => ?_) (fun c39 => ?_)
        · refine x_iconst (v := 0) (pc := 66) hc dX6_numberEnd_66 (by decide) ?_
          refine x_istore (pc := 67) (L' := [(4, .int 0), (0, .ref (w.2.2 239)), (1, .int (nI pl)), (2, .int lo), (3, .int hi)]) hc dX6_numberEnd_67 (by decide) rfl ?_
          refine x_iload (pc := 69) hc dX6_numberEnd_69 0 rfl ?_
          refine x_if_eq (pc := 71) hc dX6_numberEnd_71 80 (by decide) (fun c71_1 => ?_) (fun c71_1 => ?_)
          · refine x_iload_n (pc := 80) hc dX6_numberEnd_80 2 rfl ?_
            refine x_iconst (v := 1) (pc := 81) hc dX6_numberEnd_81 (by decide) ?_
            refine x_iadd (pc := 82) hc dX6_numberEnd_82 ?_
            refine x_as (nI (pl + 1)) (nI_add _ _) ?_
            exact hret _ _ _ _ dX6_numberEnd_83 ⟨(by
                unfold nEnd
                rw [if_neg c5, if_neg (fun z => c13 z.1), if_neg (fun z => absurd z.2.1 (Int32.not_le.mpr c39))]; rfl), rfl⟩
          · exact absurd (by decide) c71_1
        · refine x_bipush (v := 10) (pc := 42) hc dX6_numberEnd_42 (by decide) ?_
          refine x_aload_n (pc := 44) hc dX6_numberEnd_44 0 rfl ?_
          refine x_iload_n (pc := 45) hc dX6_numberEnd_45 1 rfl ?_
          refine x_callVi (pc := 46) hc cl_X6_100 cfR kcX6 [.int (nI pl)] (m_X6_digit hI (kl K) G pl ln hln hl (by omega)) rfl rfl (by simp [Value.category]) rfl rfl ⟨by decide, by decide⟩ dX6_numberEnd_46 (fun r46 Gc46 q46 => ?_)
          obtain ⟨er46, eGc46⟩ := q46
          rw [eGc46]
          subst er46
          refine x_imul (pc := 49) hc dX6_numberEnd_49 ?_
          refine x_aload_n (pc := 50) hc dX6_numberEnd_50 0 rfl ?_
          refine x_iload_n (pc := 51) hc dX6_numberEnd_51 1 rfl ?_
          refine x_iconst (v := 1) (pc := 52) hc dX6_numberEnd_52 (by decide) ?_
          refine x_iadd (pc := 53) hc dX6_numberEnd_53 ?_
          refine x_as (nI (pl + 1)) (nI_add _ _) ?_
          refine x_callVi (pc := 54) hc cl_X6_100 cfR kcX6 [.int (nI (pl + 1))] (m_X6_digit hI (kl K) G (pl + 1) ln hln hl (by omega)) rfl rfl (by simp [Value.category]) rfl rfl ⟨by decide, by decide⟩ dX6_numberEnd_54 (fun r54 Gc54 q54 => ?_)
          obtain ⟨er54, eGc54⟩ := q54
          rw [eGc54]
          subst er54
          refine x_iadd (pc := 57) hc dX6_numberEnd_57 ?_
          refine x_iload_n (pc := 58) hc dX6_numberEnd_58 3 rfl ?_
          refine x_icmp_gt (pc := 59) hc dX6_numberEnd_59 66 (by decide) (fun c59 => ?_) (fun c59 => ?_)
          · refine x_iconst (v := 0) (pc := 66) hc dX6_numberEnd_66 (by decide) ?_
            refine x_istore (pc := 67) (L' := [(4, .int 0), (0, .ref (w.2.2 239)), (1, .int (nI pl)), (2, .int lo), (3, .int hi)]) hc dX6_numberEnd_67 (by decide) rfl ?_
            refine x_iload (pc := 69) hc dX6_numberEnd_69 0 rfl ?_
            refine x_if_eq (pc := 71) hc dX6_numberEnd_71 80 (by decide) (fun c71_2 => ?_) (fun c71_2 => ?_)
            · refine x_iload_n (pc := 80) hc dX6_numberEnd_80 2 rfl ?_
              refine x_iconst (v := 1) (pc := 81) hc dX6_numberEnd_81 (by decide) ?_
              refine x_iadd (pc := 82) hc dX6_numberEnd_82 ?_
              refine x_as (nI (pl + 1)) (nI_add _ _) ?_
              exact hret _ _ _ _ dX6_numberEnd_83 ⟨(by
                  unfold nEnd
                  rw [if_neg c5, if_neg (fun z => c13 z.1), if_neg (fun z => absurd z.2.2 (Int32.not_le.mpr c59))]; rfl), rfl⟩
            · exact absurd (by decide) c71_2
          · refine x_iconst (v := 1) (pc := 62) hc dX6_numberEnd_62 (by decide) ?_
            refine x_goto (pc := 63) hc dX6_numberEnd_63 67 (by decide) ?_
            refine x_istore (pc := 67) (L' := [(4, .int 1), (0, .ref (w.2.2 239)), (1, .int (nI pl)), (2, .int lo), (3, .int hi)]) hc dX6_numberEnd_67 (by decide) rfl ?_
            refine x_iload (pc := 69) hc dX6_numberEnd_69 0 rfl ?_
            refine x_if_eq (pc := 71) hc dX6_numberEnd_71 80 (by decide) (fun c71_3 => ?_) (fun c71_3 => ?_)
            · exact absurd c71_3 (by decide)
            · refine x_iload_n (pc := 74) hc dX6_numberEnd_74 2 rfl ?_
              refine x_iconst (v := 2) (pc := 75) hc dX6_numberEnd_75 (by decide) ?_
              refine x_iadd (pc := 76) hc dX6_numberEnd_76 ?_
              refine x_as (nI (pl + 2)) (nI_add _ _) ?_
              refine x_goto (pc := 77) hc dX6_numberEnd_77 83 (by decide) ?_
              exact hret _ _ _ _ dX6_numberEnd_83 ⟨(by
                  unfold nEnd
                  rw [if_neg c5, if_neg (fun z => c13 z.1), if_pos ⟨Int32.not_le.mp c29, Int32.not_lt.mp c39, Int32.not_lt.mp c59⟩]; rfl), rfl⟩
    · refine x_iload_n (pc := 16) hc dX6_numberEnd_16 2 rfl ?_
      refine x_if_le (pc := 17) hc dX6_numberEnd_17 24 (by decide) (fun c17 => ?_) (fun c17 => ?_)
      · refine x_aload_n (pc := 24) hc dX6_numberEnd_24 0 rfl ?_
        refine x_iload_n (pc := 25) hc dX6_numberEnd_25 1 rfl ?_
        refine x_callVi (pc := 26) hc cl_X6_100 cfR kcX6 [.int (nI pl)] (m_X6_digit hI (kl K) G pl ln hln hl (by omega)) rfl rfl (by simp [Value.category]) rfl rfl ⟨by decide, by decide⟩ dX6_numberEnd_26 (fun r26_1 Gc26_1 q26_1 => ?_)
        obtain ⟨er26_1, eGc26_1⟩ := q26_1
        rw [eGc26_1]
        subst er26_1
        refine x_if_le (pc := 29) hc dX6_numberEnd_29 66 (by decide) (fun c29_1 => ?_) (fun c29_1 => ?_)
        · refine x_iconst (v := 0) (pc := 66) hc dX6_numberEnd_66 (by decide) ?_
          refine x_istore (pc := 67) (L' := [(4, .int 0), (0, .ref (w.2.2 239)), (1, .int (nI pl)), (2, .int lo), (3, .int hi)]) hc dX6_numberEnd_67 (by decide) rfl ?_
          refine x_iload (pc := 69) hc dX6_numberEnd_69 0 rfl ?_
          refine x_if_eq (pc := 71) hc dX6_numberEnd_71 80 (by decide) (fun c71_4 => ?_) (fun c71_4 => ?_)
          · refine x_iload_n (pc := 80) hc dX6_numberEnd_80 2 rfl ?_
            refine x_iconst (v := 1) (pc := 81) hc dX6_numberEnd_81 (by decide) ?_
            refine x_iadd (pc := 82) hc dX6_numberEnd_82 ?_
            refine x_as (nI (pl + 1)) (nI_add _ _) ?_
            exact hret _ _ _ _ dX6_numberEnd_83 ⟨(by
                unfold nEnd
                rw [if_neg c5, if_neg (fun z => absurd z.2 (Int32.not_lt.mpr c17)), if_neg (fun z => absurd z.1 (Int32.not_lt.mpr c29_1))]; rfl), rfl⟩
          · exact absurd (by decide) c71_4
        · refine x_aload_n (pc := 32) hc dX6_numberEnd_32 0 rfl ?_
          refine x_iload_n (pc := 33) hc dX6_numberEnd_33 1 rfl ?_
          refine x_iconst (v := 1) (pc := 34) hc dX6_numberEnd_34 (by decide) ?_
          refine x_iadd (pc := 35) hc dX6_numberEnd_35 ?_
          refine x_as (nI (pl + 1)) (nI_add _ _) ?_
          refine x_callVi (pc := 36) hc cl_X6_100 cfR kcX6 [.int (nI (pl + 1))] (m_X6_digit hI (kl K) G (pl + 1) ln hln hl (by omega)) rfl rfl (by simp [Value.category]) rfl rfl ⟨by decide, by decide⟩ dX6_numberEnd_36 (fun r36_1 Gc36_1 q36_1 => ?_)
          obtain ⟨er36_1, eGc36_1⟩ := q36_1
          rw [eGc36_1]
          subst er36_1
          refine x_if_lt (pc := 39) hc dX6_numberEnd_39 66 (by decide) (fun c39_1 => ?_) (fun c39_1 => ?_)
          · refine x_iconst (v := 0) (pc := 66) hc dX6_numberEnd_66 (by decide) ?_
            refine x_istore (pc := 67) (L' := [(4, .int 0), (0, .ref (w.2.2 239)), (1, .int (nI pl)), (2, .int lo), (3, .int hi)]) hc dX6_numberEnd_67 (by decide) rfl ?_
            refine x_iload (pc := 69) hc dX6_numberEnd_69 0 rfl ?_
            refine x_if_eq (pc := 71) hc dX6_numberEnd_71 80 (by decide) (fun c71_5 => ?_) (fun c71_5 => ?_)
            · refine x_iload_n (pc := 80) hc dX6_numberEnd_80 2 rfl ?_
              refine x_iconst (v := 1) (pc := 81) hc dX6_numberEnd_81 (by decide) ?_
              refine x_iadd (pc := 82) hc dX6_numberEnd_82 ?_
              refine x_as (nI (pl + 1)) (nI_add _ _) ?_
              exact hret _ _ _ _ dX6_numberEnd_83 ⟨(by
                  unfold nEnd
                  rw [if_neg c5, if_neg (fun z => absurd z.2 (Int32.not_lt.mpr c17)), if_neg (fun z => absurd z.2.1 (Int32.not_le.mpr c39_1))]; rfl), rfl⟩
            · exact absurd (by decide) c71_5
          · refine x_bipush (v := 10) (pc := 42) hc dX6_numberEnd_42 (by decide) ?_
            refine x_aload_n (pc := 44) hc dX6_numberEnd_44 0 rfl ?_
            refine x_iload_n (pc := 45) hc dX6_numberEnd_45 1 rfl ?_
            refine x_callVi (pc := 46) hc cl_X6_100 cfR kcX6 [.int (nI pl)] (m_X6_digit hI (kl K) G pl ln hln hl (by omega)) rfl rfl (by simp [Value.category]) rfl rfl ⟨by decide, by decide⟩ dX6_numberEnd_46 (fun r46_1 Gc46_1 q46_1 => ?_)
            obtain ⟨er46_1, eGc46_1⟩ := q46_1
            rw [eGc46_1]
            subst er46_1
            refine x_imul (pc := 49) hc dX6_numberEnd_49 ?_
            refine x_aload_n (pc := 50) hc dX6_numberEnd_50 0 rfl ?_
            refine x_iload_n (pc := 51) hc dX6_numberEnd_51 1 rfl ?_
            refine x_iconst (v := 1) (pc := 52) hc dX6_numberEnd_52 (by decide) ?_
            refine x_iadd (pc := 53) hc dX6_numberEnd_53 ?_
            refine x_as (nI (pl + 1)) (nI_add _ _) ?_
            refine x_callVi (pc := 54) hc cl_X6_100 cfR kcX6 [.int (nI (pl + 1))] (m_X6_digit hI (kl K) G (pl + 1) ln hln hl (by omega)) rfl rfl (by simp [Value.category]) rfl rfl ⟨by decide, by decide⟩ dX6_numberEnd_54 (fun r54_1 Gc54_1 q54_1 => ?_)
            obtain ⟨er54_1, eGc54_1⟩ := q54_1
            rw [eGc54_1]
            subst er54_1
            refine x_iadd (pc := 57) hc dX6_numberEnd_57 ?_
            refine x_iload_n (pc := 58) hc dX6_numberEnd_58 3 rfl ?_
            refine x_icmp_gt (pc := 59) hc dX6_numberEnd_59 66 (by decide) (fun c59_1 => ?_) (fun c59_1 => ?_)
            · refine x_iconst (v := 0) (pc := 66) hc dX6_numberEnd_66 (by decide) ?_
              refine x_istore (pc := 67) (L' := [(4, .int 0), (0, .ref (w.2.2 239)), (1, .int (nI pl)), (2, .int lo), (3, .int hi)]) hc dX6_numberEnd_67 (by decide) rfl ?_
              refine x_iload (pc := 69) hc dX6_numberEnd_69 0 rfl ?_
              refine x_if_eq (pc := 71) hc dX6_numberEnd_71 80 (by decide) (fun c71_6 => ?_) (fun c71_6 => ?_)
              · refine x_iload_n (pc := 80) hc dX6_numberEnd_80 2 rfl ?_
                refine x_iconst (v := 1) (pc := 81) hc dX6_numberEnd_81 (by decide) ?_
                refine x_iadd (pc := 82) hc dX6_numberEnd_82 ?_
                refine x_as (nI (pl + 1)) (nI_add _ _) ?_
                exact hret _ _ _ _ dX6_numberEnd_83 ⟨(by
                    unfold nEnd
                    rw [if_neg c5, if_neg (fun z => absurd z.2 (Int32.not_lt.mpr c17)), if_neg (fun z => absurd z.2.2 (Int32.not_le.mpr c59_1))]; rfl), rfl⟩
              · exact absurd (by decide) c71_6
            · refine x_iconst (v := 1) (pc := 62) hc dX6_numberEnd_62 (by decide) ?_
              refine x_goto (pc := 63) hc dX6_numberEnd_63 67 (by decide) ?_
              refine x_istore (pc := 67) (L' := [(4, .int 1), (0, .ref (w.2.2 239)), (1, .int (nI pl)), (2, .int lo), (3, .int hi)]) hc dX6_numberEnd_67 (by decide) rfl ?_
              refine x_iload (pc := 69) hc dX6_numberEnd_69 0 rfl ?_
              refine x_if_eq (pc := 71) hc dX6_numberEnd_71 80 (by decide) (fun c71_7 => ?_) (fun c71_7 => ?_)
              · exact absurd c71_7 (by decide)
              · refine x_iload_n (pc := 74) hc dX6_numberEnd_74 2 rfl ?_
                refine x_iconst (v := 2) (pc := 75) hc dX6_numberEnd_75 (by decide) ?_
                refine x_iadd (pc := 76) hc dX6_numberEnd_76 ?_
                refine x_as (nI (pl + 2)) (nI_add _ _) ?_
                refine x_goto (pc := 77) hc dX6_numberEnd_77 83 (by decide) ?_
                exact hret _ _ _ _ dX6_numberEnd_83 ⟨(by
                    unfold nEnd
                    rw [if_neg c5, if_neg (fun z => absurd z.2 (Int32.not_lt.mpr c17)), if_pos ⟨Int32.not_le.mp c29_1, Int32.not_lt.mp c39_1, Int32.not_lt.mp c59_1⟩]; rfl), rfl⟩
      · refine x_iconst (v := (-1)) (pc := 20) hc dX6_numberEnd_20 (by decide) ?_
        refine x_iload_n (pc := 21) hc dX6_numberEnd_21 1 rfl ?_
        refine x_isub (pc := 22) hc dX6_numberEnd_22 ?_
        exact hret _ _ _ _ dX6_numberEnd_23 ⟨(by
            unfold nEnd
            rw [if_neg c5, if_pos ⟨c13, Int32.not_le.mp c17⟩]; rfl), rfl⟩
set_option maxHeartbeats 4000000 in
set_option maxRecDepth 100000 in
theorem m_X6_numberIn {w : WT} (hI : xI w) (l : Launch) (G : GS) (pl e : Nat) (ln : Nat) (hln : ln ≤ 60) (hl : G 239 6 = nI ln) (hi9 : pl < 900) (he : e < 900) : Mi w l yX6_numberIn cX6_numberIn 3 (some .int) ⟨2, 0, 0, 43⟩ [.ref (w.2.2 239), .int (nI pl), .int (nI e)] G (fun v9 G' => v9 = numIn (G 243) ln pl e ∧ G' = G) := by
  refine mk_i (L0 := [(0, .ref (w.2.2 239)), (1, .int (nI pl)), (2, .int (nI e))]) hI (by decide +kernel) rfl (Nat.le_of_ble_eq_true rfl) (fun _ _ _ => rfl) (fun K hc hret => ?_)
  refine x_iload_n (pc := 0) hc dX6_numberIn_0 2 rfl ?_
  refine x_iload_n (pc := 1) hc dX6_numberIn_1 1 rfl ?_
  refine x_iconst (v := 1) (pc := 2) hc dX6_numberIn_2 (by decide) ?_
  refine x_iadd (pc := 3) hc dX6_numberIn_3 ?_
  refine x_as (nI (pl + 1)) (nI_add _ _) ?_
  refine x_icmp_ne (pc := 4) hc dX6_numberIn_4 15 (by decide) (fun c4 => ?_) (fun c4 => ?_)
  · have c4 : ¬ e = pl + 1 := fun h9 => c4 ((nI_eq (a := e) (b := pl + 1) (by omega) (by omega)).mpr h9)
    refine x_bipush (v := 10) (pc := 15) hc dX6_numberIn_15 (by decide) ?_
    refine x_aload_n (pc := 17) hc dX6_numberIn_17 0 rfl ?_
    refine x_iload_n (pc := 18) hc dX6_numberIn_18 1 rfl ?_
    refine x_callVi (pc := 19) hc cl_X6_100 cfR kcX6 [.int (nI pl)] (m_X6_digit hI (kl K) G pl ln hln hl (by omega)) rfl rfl (by simp [Value.category]) rfl rfl ⟨by decide, by decide⟩ dX6_numberIn_19 (fun r19 Gc19 q19 => ?_)
    obtain ⟨er19, eGc19⟩ := q19
    rw [eGc19]
    subst er19
    refine x_imul (pc := 22) hc dX6_numberIn_22 ?_
    refine x_aload_n (pc := 23) hc dX6_numberIn_23 0 rfl ?_
    refine x_iload_n (pc := 24) hc dX6_numberIn_24 1 rfl ?_
    refine x_iconst (v := 1) (pc := 25) hc dX6_numberIn_25 (by decide) ?_
    refine x_iadd (pc := 26) hc dX6_numberIn_26 ?_
    refine x_as (nI (pl + 1)) (nI_add _ _) ?_
    refine x_callVi (pc := 27) hc cl_X6_100 cfR kcX6 [.int (nI (pl + 1))] (m_X6_digit hI (kl K) G (pl + 1) ln hln hl (by omega)) rfl rfl (by simp [Value.category]) rfl rfl ⟨by decide, by decide⟩ dX6_numberIn_27 (fun r27 Gc27 q27 => ?_)
    obtain ⟨er27, eGc27⟩ := q27
    rw [eGc27]
    subst er27
    refine x_iadd (pc := 30) hc dX6_numberIn_30 ?_
    exact hret _ _ _ _ dX6_numberIn_31 ⟨(by unfold numIn; rw [if_neg c4]), rfl⟩
  · have c4 : e = pl + 1 := (nI_eq (a := e) (b := pl + 1) (by omega) (by omega)).mp c4
    refine x_aload_n (pc := 7) hc dX6_numberIn_7 0 rfl ?_
    refine x_iload_n (pc := 8) hc dX6_numberIn_8 1 rfl ?_
    refine x_callVi (pc := 9) hc cl_X6_100 cfR kcX6 [.int (nI pl)] (m_X6_digit hI (kl K) G pl ln hln hl (by omega)) rfl rfl (by simp [Value.category]) rfl rfl ⟨by decide, by decide⟩ dX6_numberIn_9 (fun r9 Gc9 q9 => ?_)
    obtain ⟨er9, eGc9⟩ := q9
    rw [eGc9]
    subst er9
    refine x_goto (pc := 12) hc dX6_numberIn_12 31 (by decide) ?_
    exact hret _ _ _ _ dX6_numberIn_31 ⟨(by unfold numIn; rw [if_pos c4]), rfl⟩
set_option maxHeartbeats 4000000 in
set_option maxRecDepth 100000 in
theorem m_X6_warmthEnd {w : WT} (hI : xI w) (l : Launch) (G : GS) (pl : Nat) (ln : Nat) (hln : ln ≤ 60) (hl : G 239 6 = nI ln) (hi9 : pl < 800) : Mi w l yX6_warmthEnd cX6_warmthEnd 2 (some .int) ⟨3, 0, 0, 67⟩ [.ref (w.2.2 239), .int (nI pl)] G (fun v9 G' => v9 = enc (wEnd (G 243) ln pl) ∧ G' = G) := by
  refine mk_i (L0 := [(0, .ref (w.2.2 239)), (1, .int (nI pl))]) hI (by decide +kernel) rfl (Nat.le_of_ble_eq_true rfl) (fun _ _ _ => rfl) (fun K hc hret => ?_)
  refine x_aload_n (pc := 0) hc dX6_warmthEnd_0 0 rfl ?_
  refine x_iload_n (pc := 1) hc dX6_warmthEnd_1 1 rfl ?_
  refine x_callVi (pc := 2) hc cl_X6_97 cfR kcX6 [.int (nI pl)] (m_X6_sign hI (kl K) G pl ln hln hl (by omega)) rfl rfl (by simp [Value.category]) rfl rfl ⟨by decide, by decide⟩ dX6_warmthEnd_2 (fun r2 Gc2 q2 => ?_)
  obtain ⟨er2, eGc2⟩ := q2
  rw [eGc2]
  subst er2
  refine x_bipush (v := 45) (pc := 5) hc dX6_warmthEnd_5 (by decide) ?_
  refine x_icmp_ne (pc := 7) hc dX6_warmthEnd_7 23 (by decide) (fun c7 => ?_) (fun c7 => ?_)
  · refine x_aload_n (pc := 23) hc dX6_warmthEnd_23 0 rfl ?_
    refine x_iload_n (pc := 24) hc dX6_warmthEnd_24 1 rfl ?_
    refine x_iconst (v := 0) (pc := 25) hc dX6_warmthEnd_25 (by decide) ?_
    refine x_bipush (v := 40) (pc := 26) hc dX6_warmthEnd_26 (by decide) ?_
    refine x_callVi (pc := 28) hc cl_X6_103 cfR kcX6 [.int (nI pl), .int 0, .int 40] (m_X6_numberEnd hI (kl K) G pl 0 40 ln hln hl (by omega)) rfl rfl (by simp [Value.category]) rfl rfl ⟨by decide, by decide⟩ dX6_warmthEnd_28 (fun r28 Gc28 q28 => ?_)
    obtain ⟨er28, eGc28⟩ := q28
    rw [eGc28]
    subst er28
    exact hret _ _ _ _ dX6_warmthEnd_31 ⟨(by unfold wEnd; rw [if_neg c7]), rfl⟩
  · refine x_aload_n (pc := 10) hc dX6_warmthEnd_10 0 rfl ?_
    refine x_iload_n (pc := 11) hc dX6_warmthEnd_11 1 rfl ?_
    refine x_iconst (v := 1) (pc := 12) hc dX6_warmthEnd_12 (by decide) ?_
    refine x_iadd (pc := 13) hc dX6_warmthEnd_13 ?_
    refine x_as (nI (pl + 1)) (nI_add _ _) ?_
    refine x_iconst (v := 1) (pc := 14) hc dX6_warmthEnd_14 (by decide) ?_
    refine x_bipush (v := 40) (pc := 15) hc dX6_warmthEnd_15 (by decide) ?_
    refine x_callVi (pc := 17) hc cl_X6_103 cfR kcX6 [.int (nI (pl + 1)), .int 1, .int 40] (m_X6_numberEnd hI (kl K) G (pl + 1) 1 40 ln hln hl (by omega)) rfl rfl (by simp [Value.category]) rfl rfl ⟨by decide, by decide⟩ dX6_warmthEnd_17 (fun r17 Gc17 q17 => ?_)
    obtain ⟨er17, eGc17⟩ := q17
    rw [eGc17]
    subst er17
    refine x_goto (pc := 20) hc dX6_warmthEnd_20 31 (by decide) ?_
    exact hret _ _ _ _ dX6_warmthEnd_31 ⟨(by unfold wEnd; rw [if_pos c7]), rfl⟩
set_option maxHeartbeats 4000000 in
set_option maxRecDepth 100000 in
theorem m_X6_dayEnd {w : WT} (hI : xI w) (l : Launch) (G : GS) (pl : Nat) (ln : Nat) (hln : ln ≤ 60) (hl : G 239 6 = nI ln) (hi9 : pl < 700) : Mi w l yX6_dayEnd cX6_dayEnd 3 (some .int) ⟨4, 0, 0, 88⟩ [.ref (w.2.2 239), .int (nI pl)] G (fun v9 G' => v9 = enc (dEnd (G 243) ln pl) ∧ G' = G) := by
  refine mk_i (L0 := [(0, .ref (w.2.2 239)), (1, .int (nI pl))]) hI (by decide +kernel) rfl (Nat.le_of_ble_eq_true rfl) (fun _ _ _ => rfl) (fun K hc hret => ?_)
  refine x_aload_n (pc := 0) hc dX6_dayEnd_0 0 rfl ?_
  refine x_iload_n (pc := 1) hc dX6_dayEnd_1 1 rfl ?_
  refine x_callVi (pc := 2) hc cl_X6_106 cfR kcX6 [.int (nI pl)] (m_X6_warmthEnd hI (kl K) G pl ln hln hl (by omega)) rfl rfl (by simp [Value.category]) rfl rfl ⟨by decide, by decide⟩ dX6_dayEnd_2 (fun r2 Gc2 q2 => ?_)
  obtain ⟨er2, eGc2⟩ := q2
  rw [eGc2]
  subst er2
  obtain ⟨b5, e5, hw⟩ : ∃ b e, wEnd (G 243) ln pl = (b, e) := ⟨_, _, rfl⟩
  have hwb := wEnd_b _ _ _ hw
  rw [hw]
  cases b5 with
  | false =>
    refine x_as (-1 - nI e5) rfl ?_
    generalize hx5 : (-1 : Int32) - nI e5 = x5
    refine x_istore_n (pc := 5) (L' := [(2, .int x5), (0, .ref (w.2.2 239)), (1, .int (nI pl))]) hc dX6_dayEnd_5 (by decide) rfl ?_
    refine x_iload_n (pc := 6) hc dX6_dayEnd_6 0 rfl ?_
    refine x_if_lt (pc := 7) hc dX6_dayEnd_7 33 (by decide) (fun c7 => ?_) (fun c7 => ?_)
    · refine x_iload_n (pc := 33) hc dX6_dayEnd_33 0 rfl ?_
      exact hret _ _ _ _ dX6_dayEnd_34 ⟨(by unfold dEnd; rw [hw]; exact hx5.symm), rfl⟩
    · exact absurd (by rw [hx5]; exact Int32.not_lt.mp c7) (enc_neg (n := e5) (by omega))
  | true =>
    refine x_as (nI e5) rfl ?_
    refine x_istore_n (pc := 5) (L' := [(2, .int (nI e5)), (0, .ref (w.2.2 239)), (1, .int (nI pl))]) hc dX6_dayEnd_5 (by decide) rfl ?_
    refine x_iload_n (pc := 6) hc dX6_dayEnd_6 0 rfl ?_
    refine x_if_lt (pc := 7) hc dX6_dayEnd_7 33 (by decide) (fun c7_1 => ?_) (fun c7_1 => ?_)
    · exact absurd c7_1 (nI_pos (by omega))
    · have c7_1 : ¬ e5 < 0 := fun h9 => c7_1 ((nI_ltI (a := e5) (b := 0) (by omega) (by omega)).mpr h9)
      refine x_aload_n (pc := 10) hc dX6_dayEnd_10 1 rfl ?_
      refine x_iload_n (pc := 11) hc dX6_dayEnd_11 0 rfl ?_
      refine x_callVi (pc := 12) hc cl_X6_97 cfR kcX6 [.int (nI e5)] (m_X6_sign hI (kl K) G e5 ln hln hl (by omega)) rfl rfl (by simp [Value.category]) rfl rfl ⟨by decide, by decide⟩ dX6_dayEnd_12 (fun r12 Gc12 q12 => ?_)
      obtain ⟨er12, eGc12⟩ := q12
      rw [eGc12]
      subst er12
      refine x_bipush (v := 42) (pc := 15) hc dX6_dayEnd_15 (by decide) ?_
      refine x_icmp_ne (pc := 17) hc dX6_dayEnd_17 33 (by decide) (fun c17 => ?_) (fun c17 => ?_)
      · refine x_iload_n (pc := 33) hc dX6_dayEnd_33 0 rfl ?_
        exact hret _ _ _ _ dX6_dayEnd_34 ⟨(by unfold dEnd; rw [hw]; dsimp only; rw [if_neg c17]; rfl), rfl⟩
      · refine x_aload_n (pc := 20) hc dX6_dayEnd_20 1 rfl ?_
        refine x_iload_n (pc := 21) hc dX6_dayEnd_21 0 rfl ?_
        refine x_iconst (v := 1) (pc := 22) hc dX6_dayEnd_22 (by decide) ?_
        refine x_iadd (pc := 23) hc dX6_dayEnd_23 ?_
        refine x_as (nI (e5 + 1)) (nI_add _ _) ?_
        refine x_iconst (v := 1) (pc := 24) hc dX6_dayEnd_24 (by decide) ?_
        refine x_bipush (v := 20) (pc := 25) hc dX6_dayEnd_25 (by decide) ?_
        refine x_callVi (pc := 27) hc cl_X6_103 cfR kcX6 [.int (nI (e5 + 1)), .int 1, .int 20] (m_X6_numberEnd hI (kl K) G (e5 + 1) 1 20 ln hln hl (by omega)) rfl rfl (by simp [Value.category]) rfl rfl ⟨by decide, by decide⟩ dX6_dayEnd_27 (fun r27 Gc27 q27 => ?_)
        obtain ⟨er27, eGc27⟩ := q27
        rw [eGc27]
        subst er27
        refine x_goto (pc := 30) hc dX6_dayEnd_30 34 (by decide) ?_
        exact hret _ _ _ _ dX6_dayEnd_34 ⟨(by unfold dEnd; rw [hw]; dsimp only; rw [if_pos c17]), rfl⟩
