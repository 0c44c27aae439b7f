set_option maxHeartbeats 4000000 in
set_option maxRecDepth 100000 in
theorem m_X6_meanAt {w : WT} (hI : xI w) (l : Launch) (G : GS) (d r : Nat) (hd : d < 20) (hr : r ≤ 9) (h3 : G 240 303 = nI r) : Mi w l yX6_meanAt cX6_meanAt 5 (some .int) ⟨2, 0, 0, 42⟩ [.ref (w.2.2 239), .int (nI d)] G (fun r' G' => r' = mean (G 244) d r ∧ G' = G) := by
  refine mk_i (L0 := [(0, .ref (w.2.2 239)), (1, .int (nI d))]) hI (by decide +kernel) rfl (Nat.le_of_ble_eq_true rfl) (fun _ _ _ => rfl) (fun K hc hret => ?_)
  refine x_iconst (v := 0) (pc := 0) hc dX6_meanAt_0 (by decide) ?_
  refine x_istore_n (pc := 1) (L' := [(2, .int 0), (0, .ref (w.2.2 239)), (1, .int (nI d))]) hc dX6_meanAt_1 (by decide) rfl ?_
  refine x_iconst (v := 0) (pc := 2) hc dX6_meanAt_2 (by decide) ?_
  refine x_istore_n (pc := 3) (L' := [(3, .int 0), (2, .int 0), (0, .ref (w.2.2 239)), (1, .int (nI d))]) hc dX6_meanAt_3 (by decide) rfl ?_
  refine x_iload_n (pc := 4) hc dX6_meanAt_4 3 rfl ?_
  refine x_aload_n (pc := 5) hc dX6_meanAt_5 2 rfl ?_
  refine x_get (pc := 6) hc cfR kcX6 0 (by decide) fl_X6_7 rfl dX6_meanAt_6 ?_
  refine x_sipush (v := 303) (pc := 9) hc dX6_meanAt_9 (by decide) ?_
  refine x_as (nI 303) rfl ?_
  refine x_iald (pc := 12) hc af0 (vp_in_nI (by omega) (by decide)) dX6_meanAt_12 ?_
  refine x_as (G 240 303) (congrArg _ (nI_clamp (by omega))) ?_
  refine x_as (nI r) h3 ?_
  refine x_isub (pc := 13) hc dX6_meanAt_13 ?_
  refine x_nm (fun x14 ex14 => ?_)
  refine x_istore (pc := 14) (L' := [(4, .int x14), (3, .int 0), (2, .int 0), (0, .ref (w.2.2 239)), (1, .int (nI d))]) hc dX6_meanAt_14 (by decide) rfl ?_
  have loop16 : ∀ (n1 : Nat) (j : Nat) (x4 x2 x3 : Int32), j ≤ 2 * r + 1 → 2 * r + 1 < j + n1 → x4.toInt = (d : Int) + j - r → x2 = mSum (G 244) d r (min 20 (d + j - r)) → x3 = nI (mCnt d r (min 20 (d + j - r))) → XX w K 5 G 16 [(4, .int x4), (3, .int x3), (2, .int x2), (0, .ref (w.2.2 239)), (1, .int (nI d))] [] := by
    intro n1
    induction n1 with
    | zero => intro j x4 x2 x3 hj hn hx4 hx2 hx3; omega
    | succ n1 ih =>
      intro j x4 x2 x3 hj hn hx4 hx2 hx3
      refine x_iload (pc := 16) hc dX6_meanAt_16 0 rfl ?_
      refine x_iload_n (pc := 18) hc dX6_meanAt_18 4 rfl ?_
      refine x_aload_n (pc := 19) hc dX6_meanAt_19 3 rfl ?_
      refine x_get (pc := 20) hc cfR kcX6 0 (by decide) fl_X6_7 rfl dX6_meanAt_20 ?_
      refine x_sipush (v := 303) (pc := 23) hc dX6_meanAt_23 (by decide) ?_
      refine x_as (nI 303) rfl ?_
      refine x_iald (pc := 26) hc af0 (vp_in_nI (by omega) (by decide)) dX6_meanAt_26 ?_
      refine x_as (G 240 303) (congrArg _ (nI_clamp (by omega))) ?_
      refine x_as (nI r) h3 ?_
      refine x_iadd (pc := 27) hc dX6_meanAt_27 ?_
      refine x_as (nI (d + r)) (nI_add _ _) ?_
      refine x_icmp_gt (pc := 28) hc dX6_meanAt_28 75 (by decide) (fun c28 => ?_) (fun c28 => ?_)
      · rw [Int32.lt_iff_toInt_lt, nI_toInt (by omega)] at c28
        refine x_iload_n (pc := 75) hc dX6_meanAt_75 2 rfl ?_
        refine x_iload_n (pc := 76) hc dX6_meanAt_76 1 rfl ?_
        refine x_idiv (pc := 77) hc dX6_meanAt_77 (by
              rw [hx3, show j = 2 * r + 1 by omega, show d + (2 * r + 1) - r = d + r + 1 by omega, (mSum_end (G 244) _ _ hd).2]
              exact nI_ne0 (mCnt_pos d r 20 hd) (by have := mCnt_le d r 20; omega)) ?_
        exact hret _ _ _ _ dX6_meanAt_78 ⟨by
              rw [hx2, hx3, show j = 2 * r + 1 by omega, show d + (2 * r + 1) - r = d + r + 1 by omega, (mSum_end _ _ _ hd).1, (mSum_end (G 244) _ _ hd).2]
              rfl, rfl⟩
      · rw [Int32.lt_iff_toInt_lt, nI_toInt (by omega)] at c28
        refine x_iload_n (pc := 31) hc dX6_meanAt_31 2 rfl ?_
        refine x_iload (pc := 32) hc dX6_meanAt_32 0 rfl ?_
        refine x_callSi (pc := 34) hc cl_X6_48 [.int x4] (m_X6_isDay hI (kl K) G x4) rfl rfl (by simp [Value.category]) rfl rfl ⟨by decide, by decide⟩ dX6_meanAt_34 (fun r34 Gc34 q34 => ?_)
        obtain ⟨er34, eGc34⟩ := q34
        rw [eGc34]
        subst er34
        refine x_if_eq (pc := 37) hc dX6_meanAt_37 50 (by decide) (fun c37 => ?_) (fun c37 => ?_)
        · refine x_iconst (v := 0) (pc := 50) hc dX6_meanAt_50 (by decide) ?_
          refine x_iadd (pc := 51) hc dX6_meanAt_51 ?_
          refine x_nm (fun x52 ex52 => ?_)
          refine x_istore_n (pc := 52) (L' := [(2, .int x52), (4, .int x4), (3, .int x3), (0, .ref (w.2.2 239)), (1, .int (nI d))]) hc dX6_meanAt_52 (by decide) rfl ?_
          refine x_iload_n (pc := 53) hc dX6_meanAt_53 2 rfl ?_
          refine x_iload (pc := 54) hc dX6_meanAt_54 1 rfl ?_
          refine x_callSi (pc := 56) hc cl_X6_48 [.int x4] (m_X6_isDay hI (kl K) G x4) rfl rfl (by simp [Value.category]) rfl rfl ⟨by decide, by decide⟩ dX6_meanAt_56 (fun r56 Gc56 q56 => ?_)
          obtain ⟨er56, eGc56⟩ := q56
          rw [eGc56]
          subst er56
          refine x_if_eq (pc := 59) hc dX6_meanAt_59 66 (by decide) (fun c59 => ?_) (fun c59 => ?_)
          · refine x_iconst (v := 0) (pc := 66) hc dX6_meanAt_66 (by decide) ?_
            refine x_iadd (pc := 67) hc dX6_meanAt_67 ?_
            refine x_nm (fun x68 ex68 => ?_)
            refine x_istore_n (pc := 68) (L' := [(3, .int x68), (2, .int x52), (4, .int x4), (0, .ref (w.2.2 239)), (1, .int (nI d))]) hc dX6_meanAt_68 (by decide) rfl ?_
            refine x_iinc (pc := 69) (L' := [(4, .int (x4 + 1)), (3, .int x68), (2, .int x52), (0, .ref (w.2.2 239)), (1, .int (nI d))]) hc dX6_meanAt_69 2 rfl (x4 + 1) (rfl) (by decide) rfl ?_
            refine x_goto (pc := 72) hc dX6_meanAt_72 16 (by decide) ?_
            refine x_loc [0, 1, 2, 3, 4] rfl ?_
            have h4b := inB_t c37
            rw [show (0 : Int32).toInt = 0 from rfl, show (19 : Int32).toInt = 19 from rfl] at h4b
            have e4 := i32_add (x := x4) (y := 1) (by omega) (by omega) (by decide) (by decide)
            rw [show (1 : Int32).toInt = 1 from rfl] at e4
            have k1 : min 20 (d + (j + 1) - r) = min 20 (d + j - r) := by omega
            refine ih (j + 1) (x4 + 1) x52 x68 (by omega) (by omega) (by rw [e4]; omega) ?_ ?_
            · rw [ex52, hx2, k1, Int32.add_zero]
            · rw [ex68, hx3, k1, Int32.add_zero]
          · exact absurd c37 c59
        · refine x_aload_n (pc := 40) hc dX6_meanAt_40 3 rfl ?_
          refine x_get (pc := 41) hc cfR kcX6 7 (by decide) fl_X6_22 rfl dX6_meanAt_41 ?_
          refine x_iload (pc := 44) hc dX6_meanAt_44 0 rfl ?_
          refine x_as (nI ((d + j - r))) (i32_nat (by rw [hx4]; have h4b := inB_f c37; rw [show (0 : Int32).toInt = 0 from rfl] at h4b; omega)) ?_
          refine x_iald (pc := 46) hc af4 (vp_in_nI (by have h4b := inB_f c37; rw [show (0 : Int32).toInt = 0 from rfl, show (19 : Int32).toInt = 19 from rfl] at h4b; omega) (by decide)) dX6_meanAt_46 ?_
          refine x_as (G 244 ((d + j - r))) (congrArg _ (nI_clamp (by omega))) ?_
          refine x_goto (pc := 47) hc dX6_meanAt_47 51 (by decide) ?_
          refine x_iadd (pc := 51) hc dX6_meanAt_51 ?_
          refine x_nm (fun x52_1 ex52_1 => ?_)
          refine x_istore_n (pc := 52) (L' := [(2, .int x52_1), (4, .int x4), (3, .int x3), (0, .ref (w.2.2 239)), (1, .int (nI d))]) hc dX6_meanAt_52 (by decide) rfl ?_
          refine x_iload_n (pc := 53) hc dX6_meanAt_53 2 rfl ?_
          refine x_iload (pc := 54) hc dX6_meanAt_54 1 rfl ?_
          refine x_callSi (pc := 56) hc cl_X6_48 [.int x4] (m_X6_isDay hI (kl K) G x4) rfl rfl (by simp [Value.category]) rfl rfl ⟨by decide, by decide⟩ dX6_meanAt_56 (fun r56_1 Gc56_1 q56_1 => ?_)
          obtain ⟨er56_1, eGc56_1⟩ := q56_1
          rw [eGc56_1]
          subst er56_1
          refine x_if_eq (pc := 59) hc dX6_meanAt_59 66 (by decide) (fun c59_1 => ?_) (fun c59_1 => ?_)
          · exact absurd c59_1 c37
          · refine x_iconst (v := 1) (pc := 62) hc dX6_meanAt_62 (by decide) ?_
            refine x_goto (pc := 63) hc dX6_meanAt_63 67 (by decide) ?_
            refine x_iadd (pc := 67) hc dX6_meanAt_67 ?_
            refine x_nm (fun x68_1 ex68_1 => ?_)
            refine x_istore_n (pc := 68) (L' := [(3, .int x68_1), (2, .int x52_1), (4, .int x4), (0, .ref (w.2.2 239)), (1, .int (nI d))]) hc dX6_meanAt_68 (by decide) rfl ?_
            refine x_iinc (pc := 69) (L' := [(4, .int (x4 + 1)), (3, .int x68_1), (2, .int x52_1), (0, .ref (w.2.2 239)), (1, .int (nI d))]) hc dX6_meanAt_69 2 rfl (x4 + 1) (rfl) (by decide) rfl ?_
            refine x_goto (pc := 72) hc dX6_meanAt_72 16 (by decide) ?_
            refine x_loc [0, 1, 2, 3, 4] rfl ?_
            have h4b := inB_f c37
            rw [show (0 : Int32).toInt = 0 from rfl, show (19 : Int32).toInt = 19 from rfl] at h4b
            have e4 := i32_add (x := x4) (y := 1) (by omega) (by omega) (by decide) (by decide)
            rw [show (1 : Int32).toInt = 1 from rfl] at e4
            have k1 : min 20 (d + (j + 1) - r) = min 20 (d + j - r) + 1 := by omega
            have k2 : min 20 (d + j - r) = d + j - r := by omega
            refine ih (j + 1) (x4 + 1) x52_1 x68_1 (by omega) (by omega) (by rw [e4]; omega) ?_ ?_
            · rw [ex52_1, hx2, k1, k2]
              show _ = mSum (G 244) d r (d + j - r) + _
              rw [if_pos (by omega)]
            · rw [ex68_1, hx3, k1, k2]
              show _ = nI (mCnt d r (d + j - r) + _)
              rw [if_pos (by omega)]
              exact nI_1 _
  refine x_loc [0, 1, 2, 3, 4] rfl ?_
  have z := mSum_lo (G 244) d r (d - r)
  rw [ex14]
  have hb1 := nI_toInt (n := d) (by omega)
  have hb2 := nI_toInt (n := r) (by omega)
  have e4 := i32_sub (x := nI d) (y := nI r) (by omega) (by omega) (by omega) (by omega)
  by_cases h9 : r ≤ d
  · exact loop16 (2 * r + 2) 0 _ _ _ (by omega) (by omega) (by rw [e4]; omega) (by rw [Nat.add_zero, Nat.min_eq_right (by omega), (z (by omega)).1]) (by rw [Nat.add_zero, Nat.min_eq_right (by omega), (z (by omega)).2]; rfl)
  · exact loop16 (2 * r + 2) 0 _ _ _ (by omega) (by omega) (by rw [e4]; omega) (by rw [Nat.add_zero, show d - r = 0 by omega]; rfl) (by rw [Nat.add_zero, show d - r = 0 by omega]; rfl)
set_option maxHeartbeats 4000000 in
set_option maxRecDepth 100000 in
theorem m_X6_mended {w : WT} (hI : xI w) (l : Launch) (G : GS) (b t : Int32) (d r : Nat) (hd : d < 20) (hr : r ≤ 9) (h3 : G 240 303 = nI r) : Mi w l yX6_mended cX6_mended 4 (some .int) ⟨3, 0, 0, 66⟩ [.ref (w.2.2 239), .int b, .int (nI d), .int t] G (fun r' G' => r' = bnd (b + mean (G 244) d r * t / 100) ∧ G' = G) := by
  refine mk_i (L0 := [(0, .ref (w.2.2 239)), (1, .int b), (2, .int (nI d)), (3, .int t)]) hI (by decide +kernel) rfl (Nat.le_of_ble_eq_true rfl) (fun _ _ _ => rfl) (fun K hc hret => ?_)
  refine x_iload_n (pc := 0) hc dX6_mended_0 1 rfl ?_
  refine x_aload_n (pc := 1) hc dX6_mended_1 0 rfl ?_
  refine x_iload_n (pc := 2) hc dX6_mended_2 2 rfl ?_
  refine x_callVi (pc := 3) hc cl_X6_55 cfR kcX6 [.int (nI d)] (m_X6_meanAt hI (kl K) G d r (by omega) hr h3) rfl rfl (by simp [Value.category]) rfl rfl ⟨by decide, by decide⟩ dX6_mended_3 (fun r3 Gc3 q3 => ?_)
  obtain ⟨er3, eGc3⟩ := q3
  rw [eGc3]
  subst er3
  refine x_iload_n (pc := 6) hc dX6_mended_6 3 rfl ?_
  refine x_imul (pc := 7) hc dX6_mended_7 ?_
  refine x_bipush (v := 100) (pc := 8) hc dX6_mended_8 (by decide) ?_
  refine x_idiv (pc := 10) hc dX6_mended_10 (by decide) ?_
  refine x_iadd (pc := 11) hc dX6_mended_11 ?_
  refine x_callSi (pc := 12) hc cl_X6_44 [.int (b + (((mean (G 244) d r) * t) / 100))] (m_X6_bounded hI (kl K) G (b + (((mean (G 244) d r) * t) / 100))) rfl rfl (by simp [Value.category]) rfl rfl ⟨by decide, by decide⟩ dX6_mended_12 (fun r12 Gc12 q12 => ?_)
  obtain ⟨er12, eGc12⟩ := q12
  rw [eGc12]
  subst er12
  exact hret _ _ _ _ dX6_mended_15 ⟨rfl, rfl⟩
set_option maxHeartbeats 4000000 in
set_option maxRecDepth 100000 in
theorem m_X6_sumUpTo {w : WT} (hI : xI w) (l : Launch) (G : GS) (x : Int32) (n : Nat) (hn : n ≤ 20) (hx : x.toInt = (n : Int) - 1) : Mi w l yX6_sumUpTo cX6_sumUpTo 4 (some .int) ⟨0, 0, 0, 0⟩ [.ref (w.2.2 239), .int x] G (fun r' G' => r' = pSum (G 244) n ∧ G' = G) := by
  refine mk_i (L0 := [(0, .ref (w.2.2 239)), (1, .int x)]) hI (by decide +kernel) rfl (Nat.le_of_ble_eq_true rfl) (fun _ _ _ => rfl) (fun K hc hret => ?_)
  refine x_iconst (v := 0) (pc := 0) hc dX6_sumUpTo_0 (by decide) ?_
  refine x_istore_n (pc := 1) (L' := [(2, .int 0), (0, .ref (w.2.2 239)), (1, .int x)]) hc dX6_sumUpTo_1 (by decide) rfl ?_
  refine x_iconst (v := 0) (pc := 2) hc dX6_sumUpTo_2 (by decide) ?_
  refine x_istore_n (pc := 3) (L' := [(3, .int 0), (2, .int 0), (0, .ref (w.2.2 239)), (1, .int x)]) hc dX6_sumUpTo_3 (by decide) rfl ?_
  have loop4 : ∀ (n1 : Nat) (k : Nat), k ≤ n → n < k + n1 → XX w K 4 G 4 [(3, .int (nI k)), (2, .int (pSum (G 244) k)), (0, .ref (w.2.2 239)), (1, .int x)] [] := by
    intro n1
    induction n1 with
    | zero => intro k hk hf; omega
    | succ n1 ih =>
      intro k hk hf
      refine x_iload_n (pc := 4) hc dX6_sumUpTo_4 0 rfl ?_
      refine x_iload_n (pc := 5) hc dX6_sumUpTo_5 3 rfl ?_
      refine x_icmp_gt (pc := 6) hc dX6_sumUpTo_6 30 (by decide) (fun c6 => ?_) (fun c6 => ?_)
      · refine x_iload_n (pc := 30) hc dX6_sumUpTo_30 1 rfl ?_
        exact hret _ _ _ _ dX6_sumUpTo_31 ⟨by rw [show n = k by (first | omega | (rw [Int32.lt_iff_toInt_lt, nI_toInt (by omega), hx] at c6; omega))], rfl⟩
      · refine x_iload_n (pc := 9) hc dX6_sumUpTo_9 0 rfl ?_
        refine x_bipush (v := 20) (pc := 10) hc dX6_sumUpTo_10 (by decide) ?_
        refine x_icmp_ge (pc := 12) hc dX6_sumUpTo_12 30 (by decide) (fun c12 => ?_) (fun c12 => ?_)
        · have c12 : 20 ≤ k := (nI_leI (a := 20) (b := k) (by omega) (by omega)).mp c12
          refine x_iload_n (pc := 30) hc dX6_sumUpTo_30 1 rfl ?_
          exact hret _ _ _ _ dX6_sumUpTo_31 ⟨by rw [show n = k by (first | omega | (rw [Int32.lt_iff_toInt_lt, nI_toInt (by omega), hx] at c6; omega))], rfl⟩
        · have c12 : ¬ 20 ≤ k := fun h9 => c12 ((nI_leI (a := 20) (b := k) (by omega) (by omega)).mpr h9)
          refine x_iload_n (pc := 15) hc dX6_sumUpTo_15 1 rfl ?_
          refine x_aload_n (pc := 16) hc dX6_sumUpTo_16 2 rfl ?_
          refine x_get (pc := 17) hc cfR kcX6 7 (by decide) fl_X6_22 rfl dX6_sumUpTo_17 ?_
          refine x_iload_n (pc := 20) hc dX6_sumUpTo_20 0 rfl ?_
          refine x_iald (pc := 21) hc af4 (vp_in_nI (by omega) (by decide)) dX6_sumUpTo_21 ?_
          refine x_as (G 244 k) (congrArg _ (nI_clamp (by omega))) ?_
          refine x_iadd (pc := 22) hc dX6_sumUpTo_22 ?_
          refine x_nm (fun x23 ex23 => ?_)
          refine x_istore_n (pc := 23) (L' := [(2, .int x23), (3, .int (nI k)), (0, .ref (w.2.2 239)), (1, .int x)]) hc dX6_sumUpTo_23 (by decide) rfl ?_
          refine x_iinc (pc := 24) (L' := [(3, .int (nI (k + 1))), (2, .int x23), (0, .ref (w.2.2 239)), (1, .int x)]) hc dX6_sumUpTo_24 1 rfl (nI (k + 1)) (nI_1 _) (by decide) rfl ?_
          refine x_goto (pc := 27) hc dX6_sumUpTo_27 4 (by decide) ?_
          refine x_loc [0, 1, 2, 3] rfl ?_
          have c6b := c6
          rw [Int32.lt_iff_toInt_lt, nI_toInt (by omega), hx] at c6b
          rw [ex23]
          exact ih (k + 1) (by omega) (by omega)
  refine x_loc [0, 1, 2, 3] rfl ?_
  exact loop4 21 0 (by omega) (by omega)
set_option maxHeartbeats 4000000 in
set_option maxRecDepth 100000 in
theorem m_X6_meanBySums {w : WT} (hI : xI w) (l : Launch) (G : GS) (d r : Nat) (hd : d < 20) (hr : r ≤ 9) (h3 : G 240 303 = nI r) : Mi w l yX6_meanBySums cX6_meanBySums 4 (some .int) ⟨1, 0, 0, 23⟩ [.ref (w.2.2 239), .int (nI d)] G (fun r' G' => r' = meanS (G 244) d r ∧ G' = G) := by
  refine mk_i (L0 := [(0, .ref (w.2.2 239)), (1, .int (nI d))]) hI (by decide +kernel) rfl (Nat.le_of_ble_eq_true rfl) (fun _ _ _ => rfl) (fun K hc hret => ?_)
  refine x_iload_n (pc := 0) hc dX6_meanBySums_0 1 rfl ?_
  refine x_aload_n (pc := 1) hc dX6_meanBySums_1 0 rfl ?_
  refine x_get (pc := 2) hc cfR kcX6 0 (by decide) fl_X6_7 rfl dX6_meanBySums_2 ?_
  refine x_sipush (v := 303) (pc := 5) hc dX6_meanBySums_5 (by decide) ?_
  refine x_as (nI 303) rfl ?_
  refine x_iald (pc := 8) hc af0 (vp_in_nI (by omega) (by decide)) dX6_meanBySums_8 ?_
  refine x_as (G 240 303) (congrArg _ (nI_clamp (by omega))) ?_
  refine x_as (nI r) h3 ?_
  refine x_icmp_ge (pc := 9) hc dX6_meanBySums_9 16 (by decide) (fun c9 => ?_) (fun c9 => ?_)
  · have c9 : r ≤ d := (nI_leI (a := r) (b := d) (by omega) (by omega)).mp c9
    refine x_iload_n (pc := 16) hc dX6_meanBySums_16 1 rfl ?_
    refine x_aload_n (pc := 17) hc dX6_meanBySums_17 0 rfl ?_
    refine x_get (pc := 18) hc cfR kcX6 0 (by decide) fl_X6_7 rfl dX6_meanBySums_18 ?_
    refine x_sipush (v := 303) (pc := 21) hc dX6_meanBySums_21 (by decide) ?_
    refine x_as (nI 303) rfl ?_
    refine x_iald (pc := 24) hc af0 (vp_in_nI (by omega) (by decide)) dX6_meanBySums_24 ?_
    refine x_as (G 240 303) (congrArg _ (nI_clamp (by omega))) ?_
    refine x_as (nI r) h3 ?_
    refine x_isub (pc := 25) hc dX6_meanBySums_25 ?_
    refine x_as (nI (d - r)) (pk_sub (by omega)) ?_
    refine x_istore_n (pc := 26) (L' := [(2, .int (nI (d - r))), (0, .ref (w.2.2 239)), (1, .int (nI d))]) hc dX6_meanBySums_26 (by decide) rfl ?_
    refine x_iload_n (pc := 27) hc dX6_meanBySums_27 2 rfl ?_
    refine x_aload_n (pc := 28) hc dX6_meanBySums_28 1 rfl ?_
    refine x_get (pc := 29) hc cfR kcX6 0 (by decide) fl_X6_7 rfl dX6_meanBySums_29 ?_
    refine x_sipush (v := 303) (pc := 32) hc dX6_meanBySums_32 (by decide) ?_
    refine x_as (nI 303) rfl ?_
    refine x_iald (pc := 35) hc af0 (vp_in_nI (by omega) (by decide)) dX6_meanBySums_35 ?_
    refine x_as (G 240 303) (congrArg _ (nI_clamp (by omega))) ?_
    refine x_as (nI r) h3 ?_
    refine x_iadd (pc := 36) hc dX6_meanBySums_36 ?_
    refine x_as (nI (d + r)) (nI_add _ _) ?_
    refine x_bipush (v := 20) (pc := 37) hc dX6_meanBySums_37 (by decide) ?_
    refine x_icmp_lt (pc := 39) hc dX6_meanBySums_39 47 (by decide) (fun c39 => ?_) (fun c39 => ?_)
    · have c39 : d + r < 20 := (nI_ltI (a := d + r) (b := 20) (by omega) (by omega)).mp c39
      refine x_iload_n (pc := 47) hc dX6_meanBySums_47 2 rfl ?_
      refine x_aload_n (pc := 48) hc dX6_meanBySums_48 1 rfl ?_
      refine x_get (pc := 49) hc cfR kcX6 0 (by decide) fl_X6_7 rfl dX6_meanBySums_49 ?_
      refine x_sipush (v := 303) (pc := 52) hc dX6_meanBySums_52 (by decide) ?_
      refine x_as (nI 303) rfl ?_
      refine x_iald (pc := 55) hc af0 (vp_in_nI (by omega) (by decide)) dX6_meanBySums_55 ?_
      refine x_as (G 240 303) (congrArg _ (nI_clamp (by omega))) ?_
      refine x_as (nI r) h3 ?_
      refine x_iadd (pc := 56) hc dX6_meanBySums_56 ?_
      refine x_as (nI (d + r)) (nI_add _ _) ?_
      refine x_as (nI (min 20 (d + r + 1) - 1)) (by rw [show min 20 (d + r + 1) - 1 = d + r by omega]) ?_
      refine x_istore_n (pc := 57) (L' := [(3, .int (nI (min 20 (d + r + 1) - 1))), (2, .int (nI (d - r))), (0, .ref (w.2.2 239)), (1, .int (nI d))]) hc dX6_meanBySums_57 (by decide) rfl ?_
      refine x_aload_n (pc := 58) hc dX6_meanBySums_58 2 rfl ?_
      refine x_iload_n (pc := 59) hc dX6_meanBySums_59 0 rfl ?_
      refine x_callVi (pc := 60) hc cl_X6_52 cfR kcX6 [.int (nI (min 20 (d + r + 1) - 1))] (m_X6_sumUpTo hI (kl K) G (nI (min 20 (d + r + 1) - 1)) (min 20 (d + r + 1)) (by omega) (by rw [nI_toInt (by omega)]; omega)) rfl rfl (by simp [Value.category]) rfl rfl ⟨by decide, by decide⟩ dX6_meanBySums_60 (fun r60 Gc60 q60 => ?_)
      obtain ⟨er60, eGc60⟩ := q60
      rw [eGc60]
      subst er60
      refine x_aload_n (pc := 63) hc dX6_meanBySums_63 2 rfl ?_
      refine x_iload_n (pc := 64) hc dX6_meanBySums_64 1 rfl ?_
      refine x_iconst (v := 1) (pc := 65) hc dX6_meanBySums_65 (by decide) ?_
      refine x_isub (pc := 66) hc dX6_meanBySums_66 ?_
      refine x_callVi (pc := 67) hc cl_X6_52 cfR kcX6 [.int ((nI (d - r)) - 1)] (m_X6_sumUpTo hI (kl K) G ((nI (d - r)) - 1) (d - r) (by omega) (by rw [i32_sub (by rw [nI_toInt (by omega)]; omega) (by rw [nI_toInt (by omega)]; omega) (by decide) (by decide), nI_toInt (by omega)]; rfl)) rfl rfl (by simp [Value.category]) rfl rfl ⟨by decide, by decide⟩ dX6_meanBySums_67 (fun r67 Gc67 q67 => ?_)
      obtain ⟨er67, eGc67⟩ := q67
      rw [eGc67]
      subst er67
      refine x_isub (pc := 70) hc dX6_meanBySums_70 ?_
      refine x_iload_n (pc := 71) hc dX6_meanBySums_71 0 rfl ?_
      refine x_iload_n (pc := 72) hc dX6_meanBySums_72 1 rfl ?_
      refine x_isub (pc := 73) hc dX6_meanBySums_73 ?_
      refine x_as (nI (min 20 (d + r + 1) - 1 - (d - r))) (pk_sub (by omega)) ?_
      refine x_iconst (v := 1) (pc := 74) hc dX6_meanBySums_74 (by decide) ?_
      refine x_iadd (pc := 75) hc dX6_meanBySums_75 ?_
      refine x_as (nI (min 20 (d + r + 1) - 1 - (d - r) + 1)) (nI_add _ _) ?_
      refine x_idiv (pc := 76) hc dX6_meanBySums_76 (nI_ne0 (by omega) (by omega)) ?_
      exact hret _ _ _ _ dX6_meanBySums_77 ⟨by
        rw [meanS, show min 20 (d + r + 1) - 1 - (d - r) + 1 = min 20 (d + r + 1) - (d - r) by omega], rfl⟩
    · have c39 : ¬ d + r < 20 := fun h9 => c39 ((nI_ltI (a := d + r) (b := 20) (by omega) (by omega)).mpr h9)
      refine x_bipush (v := 19) (pc := 42) hc dX6_meanBySums_42 (by decide) ?_
      refine x_goto (pc := 44) hc dX6_meanBySums_44 57 (by decide) ?_
      refine x_as (nI (min 20 (d + r + 1) - 1)) (by rw [show min 20 (d + r + 1) - 1 = 19 by omega]; rfl) ?_
      refine x_istore_n (pc := 57) (L' := [(3, .int (nI (min 20 (d + r + 1) - 1))), (2, .int (nI (d - r))), (0, .ref (w.2.2 239)), (1, .int (nI d))]) hc dX6_meanBySums_57 (by decide) rfl ?_
      refine x_aload_n (pc := 58) hc dX6_meanBySums_58 2 rfl ?_
      refine x_iload_n (pc := 59) hc dX6_meanBySums_59 0 rfl ?_
      refine x_callVi (pc := 60) hc cl_X6_52 cfR kcX6 [.int (nI (min 20 (d + r + 1) - 1))] (m_X6_sumUpTo hI (kl K) G (nI (min 20 (d + r + 1) - 1)) (min 20 (d + r + 1)) (by omega) (by rw [nI_toInt (by omega)]; omega)) rfl rfl (by simp [Value.category]) rfl rfl ⟨by decide, by decide⟩ dX6_meanBySums_60 (fun r60_1 Gc60_1 q60_1 => ?_)
      obtain ⟨er60_1, eGc60_1⟩ := q60_1
      rw [eGc60_1]
      subst er60_1
      refine x_aload_n (pc := 63) hc dX6_meanBySums_63 2 rfl ?_
      refine x_iload_n (pc := 64) hc dX6_meanBySums_64 1 rfl ?_
      refine x_iconst (v := 1) (pc := 65) hc dX6_meanBySums_65 (by decide) ?_
      refine x_isub (pc := 66) hc dX6_meanBySums_66 ?_
      refine x_callVi (pc := 67) hc cl_X6_52 cfR kcX6 [.int ((nI (d - r)) - 1)] (m_X6_sumUpTo hI (kl K) G ((nI (d - r)) - 1) (d - r) (by omega) (by rw [i32_sub (by rw [nI_toInt (by omega)]; omega) (by rw [nI_toInt (by omega)]; omega) (by decide) (by decide), nI_toInt (by omega)]; rfl)) rfl rfl (by simp [Value.category]) rfl rfl ⟨by decide, by decide⟩ dX6_meanBySums_67 (fun r67_1 Gc67_1 q67_1 => ?_)
      obtain ⟨er67_1, eGc67_1⟩ := q67_1
      rw [eGc67_1]
      subst er67_1
      refine x_isub (pc := 70) hc dX6_meanBySums_70 ?_
      refine x_iload_n (pc := 71) hc dX6_meanBySums_71 0 rfl ?_
      refine x_iload_n (pc := 72) hc dX6_meanBySums_72 1 rfl ?_
      refine x_isub (pc := 73) hc dX6_meanBySums_73 ?_
      refine x_as (nI (min 20 (d + r + 1) - 1 - (d - r))) (pk_sub (by omega)) ?_
      refine x_iconst (v := 1) (pc := 74) hc dX6_meanBySums_74 (by decide) ?_
      refine x_iadd (pc := 75) hc dX6_meanBySums_75 ?_
      refine x_as (nI (min 20 (d + r + 1) - 1 - (d - r) + 1)) (nI_add _ _) ?_
      refine x_idiv (pc := 76) hc dX6_meanBySums_76 (nI_ne0 (by omega) (by omega)) ?_
      exact hret _ _ _ _ dX6_meanBySums_77 ⟨by
        rw [meanS, show min 20 (d + r + 1) - 1 - (d - r) + 1 = min 20 (d + r + 1) - (d - r) by omega], rfl⟩
  · have c9 : ¬ r ≤ d := fun h9 => c9 ((nI_leI (a := r) (b := d) (by omega) (by omega)).mpr h9)
    refine x_iconst (v := 0) (pc := 12) hc dX6_meanBySums_12 (by decide) ?_
    refine x_goto (pc := 13) hc dX6_meanBySums_13 26 (by decide) ?_
    refine x_as (nI (d - r)) (by rw [show d - r = 0 by omega]; rfl) ?_
    refine x_istore_n (pc := 26) (L' := [(2, .int (nI (d - r))), (0, .ref (w.2.2 239)), (1, .int (nI d))]) hc dX6_meanBySums_26 (by decide) rfl ?_
    refine x_iload_n (pc := 27) hc dX6_meanBySums_27 2 rfl ?_
    refine x_aload_n (pc := 28) hc dX6_meanBySums_28 1 rfl ?_
    refine x_get (pc := 29) hc cfR kcX6 0 (by decide) fl_X6_7 rfl dX6_meanBySums_29 ?_
    refine x_sipush (v := 303) (pc := 32) hc dX6_meanBySums_32 (by decide) ?_
    refine x_as (nI 303) rfl ?_
    refine x_iald (pc := 35) hc af0 (vp_in_nI (by omega) (by decide)) dX6_meanBySums_35 ?_
    refine x_as (G 240 303) (congrArg _ (nI_clamp (by omega))) ?_
    refine x_as (nI r) h3 ?_
    refine x_iadd (pc := 36) hc dX6_meanBySums_36 ?_
    refine x_as (nI (d + r)) (nI_add _ _) ?_
    refine x_bipush (v := 20) (pc := 37) hc dX6_meanBySums_37 (by decide) ?_
    refine x_icmp_lt (pc := 39) hc dX6_meanBySums_39 47 (by decide) (fun c39_1 => ?_) (fun c39_1 => ?_)
    · have c39_1 : d + r < 20 := (nI_ltI (a := d + r) (b := 20) (by omega) (by omega)).mp c39_1
      refine x_iload_n (pc := 47) hc dX6_meanBySums_47 2 rfl ?_
      refine x_aload_n (pc := 48) hc dX6_meanBySums_48 1 rfl ?_
      refine x_get (pc := 49) hc cfR kcX6 0 (by decide) fl_X6_7 rfl dX6_meanBySums_49 ?_
      refine x_sipush (v := 303) (pc := 52) hc dX6_meanBySums_52 (by decide) ?_
      refine x_as (nI 303) rfl ?_
      refine x_iald (pc := 55) hc af0 (vp_in_nI (by omega) (by decide)) dX6_meanBySums_55 ?_
      refine x_as (G 240 303) (congrArg _ (nI_clamp (by omega))) ?_
      refine x_as (nI r) h3 ?_
      refine x_iadd (pc := 56) hc dX6_meanBySums_56 ?_
      refine x_as (nI (d + r)) (nI_add _ _) ?_
      refine x_as (nI (min 20 (d + r + 1) - 1)) (by rw [show min 20 (d + r + 1) - 1 = d + r by omega]) ?_
      refine x_istore_n (pc := 57) (L' := [(3, .int (nI (min 20 (d + r + 1) - 1))), (2, .int (nI (d - r))), (0, .ref (w.2.2 239)), (1, .int (nI d))]) hc dX6_meanBySums_57 (by decide) rfl ?_
      refine x_aload_n (pc := 58) hc dX6_meanBySums_58 2 rfl ?_
      refine x_iload_n (pc := 59) hc dX6_meanBySums_59 0 rfl ?_
      refine x_callVi (pc := 60) hc cl_X6_52 cfR kcX6 [.int (nI (min 20 (d + r + 1) - 1))] (m_X6_sumUpTo hI (kl K) G (nI (min 20 (d + r + 1) - 1)) (min 20 (d + r + 1)) (by omega) (by rw [nI_toInt (by omega)]; omega)) rfl rfl (by simp [Value.category]) rfl rfl ⟨by decide, by decide⟩ dX6_meanBySums_60 (fun r60_2 Gc60_2 q60_2 => ?_)
      obtain ⟨er60_2, eGc60_2⟩ := q60_2
      rw [eGc60_2]
      subst er60_2
      refine x_aload_n (pc := 63) hc dX6_meanBySums_63 2 rfl ?_
      refine x_iload_n (pc := 64) hc dX6_meanBySums_64 1 rfl ?_
      refine x_iconst (v := 1) (pc := 65) hc dX6_meanBySums_65 (by decide) ?_
      refine x_isub (pc := 66) hc dX6_meanBySums_66 ?_
      refine x_callVi (pc := 67) hc cl_X6_52 cfR kcX6 [.int ((nI (d - r)) - 1)] (m_X6_sumUpTo hI (kl K) G ((nI (d - r)) - 1) (d - r) (by omega) (by rw [i32_sub (by rw [nI_toInt (by omega)]; omega) (by rw [nI_toInt (by omega)]; omega) (by decide) (by decide), nI_toInt (by omega)]; rfl)) rfl rfl (by simp [Value.category]) rfl rfl ⟨by decide, by decide⟩ dX6_meanBySums_67 (fun r67_2 Gc67_2 q67_2 => ?_)
      obtain ⟨er67_2, eGc67_2⟩ := q67_2
      rw [eGc67_2]
      subst er67_2
      refine x_isub (pc := 70) hc dX6_meanBySums_70 ?_
      refine x_iload_n (pc := 71) hc dX6_meanBySums_71 0 rfl ?_
      refine x_iload_n (pc := 72) hc dX6_meanBySums_72 1 rfl ?_
      refine x_isub (pc := 73) hc dX6_meanBySums_73 ?_
      refine x_as (nI (min 20 (d + r + 1) - 1 - (d - r))) (pk_sub (by omega)) ?_
      refine x_iconst (v := 1) (pc := 74) hc dX6_meanBySums_74 (by decide) ?_
      refine x_iadd (pc := 75) hc dX6_meanBySums_75 ?_
      refine x_as (nI (min 20 (d + r + 1) - 1 - (d - r) + 1)) (nI_add _ _) ?_
      refine x_idiv (pc := 76) hc dX6_meanBySums_76 (nI_ne0 (by omega) (by omega)) ?_
      exact hret _ _ _ _ dX6_meanBySums_77 ⟨by
        rw [meanS, show min 20 (d + r + 1) - 1 - (d - r) + 1 = min 20 (d + r + 1) - (d - r) by omega], rfl⟩
    · have c39_1 : ¬ d + r < 20 := fun h9 => c39_1 ((nI_ltI (a := d + r) (b := 20) (by omega) (by omega)).mpr h9)
      refine x_bipush (v := 19) (pc := 42) hc dX6_meanBySums_42 (by decide) ?_
      refine x_goto (pc := 44) hc dX6_meanBySums_44 57 (by decide) ?_
      refine x_as (nI (min 20 (d + r + 1) - 1)) (by rw [show min 20 (d + r + 1) - 1 = 19 by omega]; rfl) ?_
      refine x_istore_n (pc := 57) (L' := [(3, .int (nI (min 20 (d + r + 1) - 1))), (2, .int (nI (d - r))), (0, .ref (w.2.2 239)), (1, .int (nI d))]) hc dX6_meanBySums_57 (by decide) rfl ?_
      refine x_aload_n (pc := 58) hc dX6_meanBySums_58 2 rfl ?_
      refine x_iload_n (pc := 59) hc dX6_meanBySums_59 0 rfl ?_
      refine x_callVi (pc := 60) hc cl_X6_52 cfR kcX6 [.int (nI (min 20 (d + r + 1) - 1))] (m_X6_sumUpTo hI (kl K) G (nI (min 20 (d + r + 1) - 1)) (min 20 (d + r + 1)) (by omega) (by rw [nI_toInt (by omega)]; omega)) rfl rfl (by simp [Value.category]) rfl rfl ⟨by decide, by decide⟩ dX6_meanBySums_60 (fun r60_3 Gc60_3 q60_3 => ?_)
      obtain ⟨er60_3, eGc60_3⟩ := q60_3
      rw [eGc60_3]
      subst er60_3
      refine x_aload_n (pc := 63) hc dX6_meanBySums_63 2 rfl ?_
      refine x_iload_n (pc := 64) hc dX6_meanBySums_64 1 rfl ?_
      refine x_iconst (v := 1) (pc := 65) hc dX6_meanBySums_65 (by decide) ?_
      refine x_isub (pc := 66) hc dX6_meanBySums_66 ?_
      refine x_callVi (pc := 67) hc cl_X6_52 cfR kcX6 [.int ((nI (d - r)) - 1)] (m_X6_sumUpTo hI (kl K) G ((nI (d - r)) - 1) (d - r) (by omega) (by rw [i32_sub (by rw [nI_toInt (by omega)]; omega) (by rw [nI_toInt (by omega)]; omega) (by decide) (by decide), nI_toInt (by omega)]; rfl)) rfl rfl (by simp [Value.category]) rfl rfl ⟨by decide, by decide⟩ dX6_meanBySums_67 (fun r67_3 Gc67_3 q67_3 => ?_)
      obtain ⟨er67_3, eGc67_3⟩ := q67_3
      rw [eGc67_3]
      subst er67_3
      refine x_isub (pc := 70) hc dX6_meanBySums_70 ?_
      refine x_iload_n (pc := 71) hc dX6_meanBySums_71 0 rfl ?_
      refine x_iload_n (pc := 72) hc dX6_meanBySums_72 1 rfl ?_
      refine x_isub (pc := 73) hc dX6_meanBySums_73 ?_
      refine x_as (nI (min 20 (d + r + 1) - 1 - (d - r))) (pk_sub (by omega)) ?_
      refine x_iconst (v := 1) (pc := 74) hc dX6_meanBySums_74 (by decide) ?_
      refine x_iadd (pc := 75) hc dX6_meanBySums_75 ?_
      refine x_as (nI (min 20 (d + r + 1) - 1 - (d - r) + 1)) (nI_add _ _) ?_
      refine x_idiv (pc := 76) hc dX6_meanBySums_76 (nI_ne0 (by omega) (by omega)) ?_
      exact hret _ _ _ _ dX6_meanBySums_77 ⟨by
        rw [meanS, show min 20 (d + r + 1) - 1 - (d - r) + 1 = min 20 (d + r + 1) - (d - r) by omega], rfl⟩
def lkRow (f m : Nat → Int32) (a : Nat) (k : Nat) : Nat → Int32 := fun j => if j < k then f (80 + 60 * a + j) else m j
theorem lkRow_up (f m : Nat → Int32) (a k : Nat) : upd (lkRow f m a k) k (f (80 + 60 * a + k)) = lkRow f m a (k + 1) := by
  funext j
  unfold upd lkRow
  by_cases h : j = k
  · subst h; rw [if_pos rfl, if_pos (by omega)]
  · rw [if_neg h]
    by_cases h2 : j < k
    · rw [if_pos h2, if_pos (by omega)]
    · rw [if_neg h2, if_neg (by omega)]
def lnRow (f m : Nat → Int32) (d : Nat) (k : Nat) : Nat → Int32 := fun j => if j < k then (if j < d then f (40 + j) - f (20 + j) else 0) else m j
theorem lnRow_up (f m : Nat → Int32) (d k : Nat) {v : Int32} (hv : v = if k < d then f (40 + k) - f (20 + k) else 0) : upd (lnRow f m d k) k v = lnRow f m d (k + 1) := by
  funext j
  unfold upd lnRow
  by_cases h : j = k
  · subst h; rw [if_pos rfl, if_pos (by omega), hv]
  · rw [if_neg h]
    by_cases h2 : j < k
    · rw [if_pos h2]; exact (if_pos (show j < k + 1 by omega)).symm
    · rw [if_neg h2]; exact (if_neg (show ¬ j < k + 1 by omega)).symm
set_option maxHeartbeats 4000000 in
set_option maxRecDepth 100000 in
theorem m_X6_looks {w : WT} (hI : xI w) (l : Launch) (G : GS) (a : Nat) (s f m : Nat → Int32) (ha : a < 4) : Mv w l yX6_looks cX6_looks 3 ⟨0, 0, 0, 0⟩ [.ref (w.2.2 239), .int (nI a)] (GM G 0 s f m) (fun G' => G' = GM G 0 s f (lkRow f m a 20)) := by
  refine mk_v (L0 := [(0, .ref (w.2.2 239)), (1, .int (nI a))]) hI (by decide +kernel) rfl (Nat.le_of_ble_eq_true rfl) (fun K hc hret => ?_)
  refine x_iconst (v := 0) (pc := 0) hc dX6_looks_0 (by decide) ?_
  refine x_istore_n (pc := 1) (L' := [(2, .int 0), (0, .ref (w.2.2 239)), (1, .int (nI a))]) hc dX6_looks_1 (by decide) rfl ?_
  have loop2 : ∀ (n1 : Nat) (k : Nat), k ≤ 20 → 20 < k + n1 → XX w K 3 (GM G 0 s f (lkRow f m a k)) 2 [(2, .int (nI k)), (0, .ref (w.2.2 239)), (1, .int (nI a))] [] := by
    intro n1
    induction n1 with
    | zero => intro k hk hf; omega
    | succ n1 ih =>
      intro k hk hf
      refine x_iload_n (pc := 2) hc dX6_looks_2 0 rfl ?_
      refine x_bipush (v := 20) (pc := 3) hc dX6_looks_3 (by decide) ?_
      refine x_icmp_ge (pc := 5) hc dX6_looks_5 37 (by decide) (fun c5 => ?_) (fun c5 => ?_)
      · have c5 : 20 ≤ k := (nI_leI (a := 20) (b := k) (by omega) (by omega)).mp c5
        exact hret _ _ _ dX6_looks_37 (by rw [show k = 20 by omega])
      · have c5 : ¬ 20 ≤ k := fun h9 => c5 ((nI_leI (a := 20) (b := k) (by omega) (by omega)).mpr h9)
        refine x_aload_n (pc := 8) hc dX6_looks_8 1 rfl ?_
        refine x_get (pc := 9) hc cfR kcX6 7 (by decide) fl_X6_22 rfl dX6_looks_9 ?_
        refine x_iload_n (pc := 12) hc dX6_looks_12 0 rfl ?_
        refine x_aload_n (pc := 13) hc dX6_looks_13 1 rfl ?_
        refine x_get (pc := 14) hc cfR kcX6 0 (by decide) fl_X6_7 rfl dX6_looks_14 ?_
        refine x_bipush (v := 60) (pc := 17) hc dX6_looks_17 (by decide) ?_
        refine x_bipush (v := 60) (pc := 19) hc dX6_looks_19 (by decide) ?_
        refine x_iload_n (pc := 21) hc dX6_looks_21 2 rfl ?_
        refine x_imul (pc := 22) hc dX6_looks_22 ?_
        refine x_as (nI (60 * a)) (pk_mul _ _) ?_
        refine x_iadd (pc := 23) hc dX6_looks_23 ?_
        refine x_as (nI (60 + 60 * a)) (nI_add _ _) ?_
        refine x_bipush (v := 20) (pc := 24) hc dX6_looks_24 (by decide) ?_
        refine x_iadd (pc := 26) hc dX6_looks_26 ?_
        refine x_as (nI (60 + 60 * a + 20)) (nI_add _ _) ?_
        refine x_iload_n (pc := 27) hc dX6_looks_27 0 rfl ?_
        refine x_iadd (pc := 28) hc dX6_looks_28 ?_
        refine x_as (nI (60 + 60 * a + 20 + k)) (nI_add _ _) ?_
        refine x_iald (pc := 29) hc af0 (vp_in_nI (by omega) (by decide)) dX6_looks_29 ?_
        refine x_as (f (60 + 60 * a + 20 + k)) (gm_ld (by omega) (by omega)) ?_
        refine x_iast (pc := 30) hc af4 (vp_in_nI (by omega) (by decide)) dX6_looks_30 ?_
        refine x_G (gm_stm (by omega)) ?_
        refine x_fn (fun z => GM G 0 s f z) (fun m1 em1 => ?_)
        refine x_iinc (pc := 31) (L' := [(2, .int (nI (k + 1))), (0, .ref (w.2.2 239)), (1, .int (nI a))]) hc dX6_looks_31 0 rfl (nI (k + 1)) (nI_1 _) (by decide) rfl ?_
        refine x_goto (pc := 34) hc dX6_looks_34 2 (by decide) ?_
        refine x_loc [0, 1, 2] rfl ?_
        have z9 := lkRow_up f m a k
        rw [show 80 + 60 * a + k = 60 + 60 * a + 20 + k by omega] at z9
        rw [em1, z9]
        exact ih (k + 1) (by omega) (by omega)
  refine x_loc [0, 1, 2] rfl ?_
  exact loop2 21 0 (by omega) (by omega)
set_option maxHeartbeats 4000000 in
set_option maxRecDepth 100000 in
theorem m_X6_looksNow {w : WT} (hI : xI w) (l : Launch) (G : GS) (d : Nat) (p : Nat) (s f m : Nat → Int32) (hp : p ≤ 354) (hd : d ≤ 20) (h0 : f 300 = nI d) : Mv w l yX6_looksNow cX6_looksNow 3 ⟨0, 0, 0, 0⟩ [.ref (w.2.2 239), .int (nI p)] (GM G p s f m) (fun G' => G' = GM G p s f (lnRow f m d 20)) := by
  refine mk_v (L0 := [(0, .ref (w.2.2 239)), (1, .int (nI p))]) hI (by decide +kernel) rfl (Nat.le_of_ble_eq_true rfl) (fun K hc hret => ?_)
  refine x_iconst (v := 0) (pc := 0) hc dX6_looksNow_0 (by decide) ?_
  refine x_istore_n (pc := 1) (L' := [(2, .int 0), (0, .ref (w.2.2 239)), (1, .int (nI p))]) hc dX6_looksNow_1 (by decide) rfl ?_
  have loop2 : ∀ (n1 : Nat) (k : Nat), k ≤ 20 → 20 < k + n1 → XX w K 3 (GM G p s f (lnRow f m d k)) 2 [(2, .int (nI k)), (0, .ref (w.2.2 239)), (1, .int (nI p))] [] := by
    intro n1
    induction n1 with
    | zero => intro k hk hf; omega
    | succ n1 ih =>
      intro k hk hf
      refine x_iload_n (pc := 2) hc dX6_looksNow_2 0 rfl ?_
      refine x_bipush (v := 20) (pc := 3) hc dX6_looksNow_3 (by decide) ?_
      refine x_icmp_ge (pc := 5) hc dX6_looksNow_5 61 (by decide) (fun c5 => ?_) (fun c5 => ?_)
      · have c5 : 20 ≤ k := (nI_leI (a := 20) (b := k) (by omega) (by omega)).mp c5
        exact hret _ _ _ dX6_looksNow_61 (by rw [show k = 20 by omega])
      · have c5 : ¬ 20 ≤ k := fun h9 => c5 ((nI_leI (a := 20) (b := k) (by omega) (by omega)).mpr h9)
        refine x_aload_n (pc := 8) hc dX6_looksNow_8 1 rfl ?_
        refine x_get (pc := 9) hc cfR kcX6 7 (by decide) fl_X6_22 rfl dX6_looksNow_9 ?_
        refine x_iload_n (pc := 12) hc dX6_looksNow_12 0 rfl ?_
        refine x_iload_n (pc := 13) hc dX6_looksNow_13 0 rfl ?_
        refine x_aload_n (pc := 14) hc dX6_looksNow_14 1 rfl ?_
        refine x_get (pc := 15) hc cfR kcX6 0 (by decide) fl_X6_7 rfl dX6_looksNow_15 ?_
        refine x_iload_n (pc := 18) hc dX6_looksNow_18 2 rfl ?_
        refine x_sipush (v := 300) (pc := 19) hc dX6_looksNow_19 (by decide) ?_
        refine x_iadd (pc := 22) hc dX6_looksNow_22 ?_
        refine x_as (nI (p + 300)) (nI_add _ _) ?_
        refine x_iald (pc := 23) hc af0 (vp_in_nI (by omega) (by decide)) dX6_looksNow_23 ?_
        refine x_as (f 300) (gm_ld (by omega) (by omega)) ?_
        refine x_as (nI d) h0 ?_
        refine x_icmp_ge (pc := 24) hc dX6_looksNow_24 53 (by decide) (fun c24 => ?_) (fun c24 => ?_)
        · have c24 : d ≤ k := (nI_leI (a := d) (b := k) (by omega) (by omega)).mp c24
          refine x_iconst (v := 0) (pc := 53) hc dX6_looksNow_53 (by decide) ?_
          refine x_iast (pc := 54) hc af4 (vp_in_nI (by omega) (by decide)) dX6_looksNow_54 ?_
          refine x_G (gm_stm (by omega)) ?_
          refine x_fn (fun z => GM G p s f z) (fun m1 em1 => ?_)
          refine x_iinc (pc := 55) (L' := [(2, .int (nI (k + 1))), (0, .ref (w.2.2 239)), (1, .int (nI p))]) hc dX6_looksNow_55 0 rfl (nI (k + 1)) (nI_1 _) (by decide) rfl ?_
          refine x_goto (pc := 58) hc dX6_looksNow_58 2 (by decide) ?_
          refine x_loc [0, 1, 2] rfl ?_
          rw [em1, lnRow_up f m d k (by rw [if_neg (by omega)])]
          exact ih (k + 1) (by omega) (by omega)
        · have c24 : ¬ d ≤ k := fun h9 => c24 ((nI_leI (a := d) (b := k) (by omega) (by omega)).mpr h9)
          refine x_aload_n (pc := 27) hc dX6_looksNow_27 1 rfl ?_
          refine x_get (pc := 28) hc cfR kcX6 0 (by decide) fl_X6_7 rfl dX6_looksNow_28 ?_
          refine x_iload_n (pc := 31) hc dX6_looksNow_31 2 rfl ?_
          refine x_bipush (v := 40) (pc := 32) hc dX6_looksNow_32 (by decide) ?_
          refine x_iadd (pc := 34) hc dX6_looksNow_34 ?_
          refine x_as (nI (p + 40)) (nI_add _ _) ?_
          refine x_iload_n (pc := 35) hc dX6_looksNow_35 0 rfl ?_
          refine x_iadd (pc := 36) hc dX6_looksNow_36 ?_
          refine x_as (nI (p + 40 + k)) (nI_add _ _) ?_
          refine x_iald (pc := 37) hc af0 (vp_in_nI (by omega) (by decide)) dX6_looksNow_37 ?_
          refine x_as (f (40 + k)) (gm_ld (by omega) (by omega)) ?_
          refine x_aload_n (pc := 38) hc dX6_looksNow_38 1 rfl ?_
          refine x_get (pc := 39) hc cfR kcX6 0 (by decide) fl_X6_7 rfl dX6_looksNow_39 ?_
          refine x_iload_n (pc := 42) hc dX6_looksNow_42 2 rfl ?_
          refine x_bipush (v := 20) (pc := 43) hc dX6_looksNow_43 (by decide) ?_
          refine x_iadd (pc := 45) hc dX6_looksNow_45 ?_
          refine x_as (nI (p + 20)) (nI_add _ _) ?_
          refine x_iload_n (pc := 46) hc dX6_looksNow_46 0 rfl ?_
          refine x_iadd (pc := 47) hc dX6_looksNow_47 ?_
          refine x_as (nI (p + 20 + k)) (nI_add _ _) ?_
          refine x_iald (pc := 48) hc af0 (vp_in_nI (by omega) (by decide)) dX6_looksNow_48 ?_
          refine x_as (f (20 + k)) (gm_ld (by omega) (by omega)) ?_
          refine x_isub (pc := 49) hc dX6_looksNow_49 ?_
          refine x_goto (pc := 50) hc dX6_looksNow_50 54 (by decide) ?_
          refine x_iast (pc := 54) hc af4 (vp_in_nI (by omega) (by decide)) dX6_looksNow_54 ?_
          refine x_G (gm_stm (by omega)) ?_
          refine x_fn (fun z => GM G p s f z) (fun m2 em2 => ?_)
          refine x_iinc (pc := 55) (L' := [(2, .int (nI (k + 1))), (0, .ref (w.2.2 239)), (1, .int (nI p))]) hc dX6_looksNow_55 0 rfl (nI (k + 1)) (nI_1 _) (by decide) rfl ?_
          refine x_goto (pc := 58) hc dX6_looksNow_58 2 (by decide) ?_
          refine x_loc [0, 1, 2] rfl ?_
          rw [em2, lnRow_up f m d k (by rw [if_pos (by omega)])]
          exact ih (k + 1) (by omega) (by omega)
  refine x_loc [0, 1, 2] rfl ?_
  exact loop2 21 0 (by omega) (by omega)
