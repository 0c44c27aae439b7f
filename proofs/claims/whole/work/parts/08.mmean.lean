set_option maxHeartbeats 4000000 in
set_option maxRecDepth 100000 in
theorem m_X6_meanAt {w : WT} (hI : xI w) (l : Launch) (G : GS) (d r : Nat) (hd : d < 20) (hr : r ≤ 9) (h3 : G 240 303 = nI r) : Mi w l yX6_meanAt cX6_meanAt 5 (some .int) ⟨2, 0, 0, 42⟩ [.ref (w.2.2 239), .int (nI d)] G (fun r' G' => r' = mean (G 244) d r ∧ G' = G) := by
  refine mk_i (L0 := [(0, .ref (w.2.2 239)), (1, .int (nI d))]) hI (by decide +kernel) rfl (Nat.le_of_ble_eq_true rfl) (fun _ _ _ => rfl) (fun K hc hret => ?_)
  refine x_iconst (v := 0) (pc := 0) hc dX6_meanAt_0 (by decide) ?_
  refine x_istore_n (pc := 1) (L' := [(2, .int 0), (0, .ref (w.2.2 239)), (1, .int (nI d))]) hc dX6_meanAt_1 (by decide) rfl ?_
  refine x_iconst (v := 0) (pc := 2) hc dX6_meanAt_2 (by decide) ?_
  refine x_istore_n (pc := 3) (L' := [(3, .int 0), (2, .int 0), (0, .ref (w.2.2 239)), (1, .int (nI d))]) hc dX6_meanAt_3 (by decide) rfl ?_
  refine x_iload_n (pc := 4) hc dX6_meanAt_4 3 rfl ?_
  refine x_aload_n (pc := 5) hc dX6_meanAt_5 2 rfl ?_
  refine x_get (pc := 6) hc cfR kcX6 0 (by decide) fl_X6_7 rfl dX6_meanAt_6 ?_
  refine x_sipush (v := 303) (pc := 9) hc dX6_meanAt_9 (by decide) ?_
  refine x_as (nI 303) rfl ?_
  refine x_iald (pc := 12) hc af0 (vp_in_nI (by omega) (by decide)) dX6_meanAt_12 ?_
  refine x_as (G 240 303) (congrArg _ (nI_clamp (by omega))) ?_
  refine x_as (nI r) h3 ?_
  refine x_isub (pc := 13) hc dX6_meanAt_13 ?_
  refine x_nm (fun x14 ex14 => ?_)
  refine x_istore (pc := 14) (L' := [(4, .int x14), (3, .int 0), (2, .int 0), (0, .ref (w.2.2 239)), (1, .int (nI d))]) hc dX6_meanAt_14 (by decide) rfl ?_
  have loop16 : ∀ (n1 : Nat) (j : Nat) (x4 x2 x3 : Int32), j ≤ 2 * r + 1 → 2 * r + 1 < j + n1 → x4.toInt = (d : Int) + j - r → x2 = mSum (G 244) d r (min 20 (d + j - r)) → x3 = nI (mCnt d r (min 20 (d + j - r))) → XX w K 5 G 16 [(4, .int x4), (3, .int x3), (2, .int x2), (0, .ref (w.2.2 239)), (1, .int (nI d))] [] := by
    intro n1
    induction n1 with
    | zero => intro j x4 x2 x3 hj hn hx4 hx2 hx3; omega
    | succ n1 ih =>
      intro j x4 x2 x3 hj hn hx4 hx2 hx3
      refine x_iload (pc := 16) hc dX6_meanAt_16 0 rfl ?_
      refine x_iload_n (pc := 18) hc dX6_meanAt_18 4 rfl ?_
      refine x_aload_n (pc := 19) hc dX6_meanAt_19 3 rfl ?_
      refine x_get (pc := 20) hc cfR kcX6 0 (by decide) fl_X6_7 rfl dX6_meanAt_20 ?_
      refine x_sipush (v := 303) (pc := 23) hc dX6_meanAt_23 (by decide) ?_
      refine x_as (nI 303) rfl ?_
      refine x_iald (pc := 26) hc af0 (vp_in_nI (by omega) (by decide)) dX6_meanAt_26 ?_
      refine x_as (G 240 303) (congrArg _ (nI_clamp (by omega))) ?_
      refine x_as (nI r) h3 ?_
      refine x_iadd (pc := 27) hc dX6_meanAt_27 ?_
      refine x_as (nI (d + r)) (nI_add _ _) ?_
      refine x_icmp_gt (pc := 28) hc dX6_meanAt_28 75 (by decide) (fun c28 => ?_) (fun c28 => ?_)
      · rw [Int32.lt_iff_toInt_lt, nI_toInt (by omega)] at c28
        refine x_iload_n (pc := 75) hc dX6_meanAt_75 2 rfl ?_
        refine x_iload_n (pc := 76) hc dX6_meanAt_76 1 rfl ?_
        refine x_idiv (pc := 77) hc dX6_meanAt_77 (by
              rw [hx3, show j = 2 * r + 1 by omega, show d + (2 * r + 1) - r = d + r + 1 by omega, (mSum_end (G 244) _ _ hd).2]
              exact nI_ne0 (mCnt_pos d r 20 hd) (by have := mCnt_le d r 20; omega)) ?_
        exact hret _ _ _ _ dX6_meanAt_78 ⟨by
              rw [hx2, hx3, show j = 2 * r + 1 by omega, show d + (2 * r + 1) - r = d + r + 1 by omega, (mSum_end _ _ _ hd).1, (mSum_end (G 244) _ _ hd).2]
              rfl, rfl⟩
      · rw [Int32.lt_iff_toInt_lt, nI_toInt (by omega)] at c28
        refine x_iload_n (pc := 31) hc dX6_meanAt_31 2 rfl ?_
        refine x_iload (pc := 32) hc dX6_meanAt_32 0 rfl ?_
        refine x_callSi (pc := 34) hc cl_X6_48 [.int x4] (m_X6_isDay hI (kl K) G x4) rfl rfl (by simp [Value.category]) rfl rfl ⟨by decide, by decide⟩ dX6_meanAt_34 (fun r34 Gc34 q34 => ?_)
        obtain ⟨er34, eGc34⟩ := q34
        rw [eGc34]
        subst er34
        refine x_if_eq (pc := 37) hc dX6_meanAt_37 50 (by decide) (fun c37 => ?_) (fun c37 => ?_)
        · refine x_iconst (v := 0) (pc := 50) hc dX6_meanAt_50 (by decide) ?_
          refine x_iadd (pc := 51) hc dX6_meanAt_51 ?_
          refine x_nm (fun x52 ex52 => ?_)
          refine x_istore_n (pc := 52) (L' := [(2, .int x52), (4, .int x4), (3, .int x3), (0, .ref (w.2.2 239)), (1, .int (nI d))]) hc dX6_meanAt_52 (by decide) rfl ?_
          refine x_iload_n (pc := 53) hc dX6_meanAt_53 2 rfl ?_
          refine x_iload (pc := 54) hc dX6_meanAt_54 1 rfl ?_
          refine x_callSi (pc := 56) hc cl_X6_48 [.int x4] (m_X6_isDay hI (kl K) G x4) rfl rfl (by simp [Value.category]) rfl rfl ⟨by decide, by decide⟩ dX6_meanAt_56 (fun r56 Gc56 q56 => ?_)
          obtain ⟨er56, eGc56⟩ := q56
          rw [eGc56]
          subst er56
          refine x_if_eq (pc := 59) hc dX6_meanAt_59 66 (by decide) (fun c59 => ?_) (fun c59 => ?_)
          · refine x_iconst (v := 0) (pc := 66) hc dX6_meanAt_66 (by decide) ?_
            refine x_iadd (pc := 67) hc dX6_meanAt_67 ?_
            refine x_nm (fun x68 ex68 => ?_)
            refine x_istore_n (pc := 68) (L' := [(3, .int x68), (2, .int x52), (4, .int x4), (0, .ref (w.2.2 239)), (1, .int (nI d))]) hc dX6_meanAt_68 (by decide) rfl ?_
            refine x_iinc (pc := 69) (L' := [(4, .int (x4 + 1)), (3, .int x68), (2, .int x52), (0, .ref (w.2.2 239)), (1, .int (nI d))]) hc dX6_meanAt_69 2 rfl (x4 + 1) (rfl) (by decide) rfl ?_
            refine x_goto (pc := 72) hc dX6_meanAt_72 16 (by decide) ?_
            refine x_loc [0, 1, 2, 3, 4] rfl ?_
            have h4b := inB_t c37
            rw [show (0 : Int32).toInt = 0 from rfl, show (19 : Int32).toInt = 19 from rfl] at h4b
            have e4 := i32_add (x := x4) (y := 1) (by omega) (by omega) (by decide) (by decide)
            rw [show (1 : Int32).toInt = 1 from rfl] at e4
            have k1 : min 20 (d + (j + 1) - r) = min 20 (d + j - r) := by omega
            refine ih (j + 1) (x4 + 1) x52 x68 (by omega) (by omega) (by rw [e4]; omega) ?_ ?_
            · rw [ex52, hx2, k1, Int32.add_zero]
            · rw [ex68, hx3, k1, Int32.add_zero]
          · exact absurd c37 c59
        · refine x_aload_n (pc := 40) hc dX6_meanAt_40 3 rfl ?_
          refine x_get (pc := 41) hc cfR kcX6 7 (by decide) fl_X6_22 rfl dX6_meanAt_41 ?_
          refine x_iload (pc := 44) hc dX6_meanAt_44 0 rfl ?_
          refine x_as (nI ((d + j - r))) (i32_nat (by rw [hx4]; have h4b := inB_f c37; rw [show (0 : Int32).toInt = 0 from rfl] at h4b; omega)) ?_
          refine x_iald (pc := 46) hc af4 (vp_in_nI (by have h4b := inB_f c37; rw [show (0 : Int32).toInt = 0 from rfl, show (19 : Int32).toInt = 19 from rfl] at h4b; omega) (by decide)) dX6_meanAt_46 ?_
          refine x_as (G 244 ((d + j - r))) (congrArg _ (nI_clamp (by omega))) ?_
          refine x_goto (pc := 47) hc dX6_meanAt_47 51 (by decide) ?_
          refine x_iadd (pc := 51) hc dX6_meanAt_51 ?_
          refine x_nm (fun x52_1 ex52_1 => ?_)
          refine x_istore_n (pc := 52) (L' := [(2, .int x52_1), (4, .int x4), (3, .int x3), (0, .ref (w.2.2 239)), (1, .int (nI d))]) hc dX6_meanAt_52 (by decide) rfl ?_
          refine x_iload_n (pc := 53) hc dX6_meanAt_53 2 rfl ?_
          refine x_iload (pc := 54) hc dX6_meanAt_54 1 rfl ?_
          refine x_callSi (pc := 56) hc cl_X6_48 [.int x4] (m_X6_isDay hI (kl K) G x4) rfl rfl (by simp [Value.category]) rfl rfl ⟨by decide, by decide⟩ dX6_meanAt_56 (fun r56_1 Gc56_1 q56_1 => ?_)
          obtain ⟨er56_1, eGc56_1⟩ := q56_1
          rw [eGc56_1]
          subst er56_1
          refine x_if_eq (pc := 59) hc dX6_meanAt_59 66 (by decide) (fun c59_1 => ?_) (fun c59_1 => ?_)
          · exact absurd c59_1 c37
          · refine x_iconst (v := 1) (pc := 62) hc dX6_meanAt_62 (by decide) ?_
            refine x_goto (pc := 63) hc dX6_meanAt_63 67 (by decide) ?_
            refine x_iadd (pc := 67) hc dX6_meanAt_67 ?_
            refine x_nm (fun x68_1 ex68_1 => ?_)
            refine x_istore_n (pc := 68) (L' := [(3, .int x68_1), (2, .int x52_1), (4, .int x4), (0, .ref (w.2.2 239)), (1, .int (nI d))]) hc dX6_meanAt_68 (by decide) rfl ?_
            refine x_iinc (pc := 69) (L' := [(4, .int (x4 + 1)), (3, .int x68_1), (2, .int x52_1), (0, .ref (w.2.2 239)), (1, .int (nI d))]) hc dX6_meanAt_69 2 rfl (x4 + 1) (rfl) (by decide) rfl ?_
            refine x_goto (pc := 72) hc dX6_meanAt_72 16 (by decide) ?_
            refine x_loc [0, 1, 2, 3, 4] rfl ?_
            have h4b := inB_f c37
            rw [show (0 : Int32).toInt = 0 from rfl, show (19 : Int32).toInt = 19 from rfl] at h4b
            have e4 := i32_add (x := x4) (y := 1) (by omega) (by omega) (by decide) (by decide)
            rw [show (1 : Int32).toInt = 1 from rfl] at e4
            have k1 : min 20 (d + (j + 1) - r) = min 20 (d + j - r) + 1 := by omega
            have k2 : min 20 (d + j - r) = d + j - r := by omega
            refine ih (j + 1) (x4 + 1) x52_1 x68_1 (by omega) (by omega) (by rw [e4]; omega) ?_ ?_
            · rw [ex52_1, hx2, k1, k2]
              show _ = mSum (G 244) d r (d + j - r) + _
              rw [if_pos (by omega)]
            · rw [ex68_1, hx3, k1, k2]
              show _ = nI (mCnt d r (d + j - r) + _)
              rw [if_pos (by omega)]
              exact nI_1 _
  refine x_loc [0, 1, 2, 3, 4] rfl ?_
  have z := mSum_lo (G 244) d r (d - r)
  rw [ex14]
  have hb1 := nI_toInt (n := d) (by omega)
  have hb2 := nI_toInt (n := r) (by omega)
  have e4 := i32_sub (x := nI d) (y := nI r) (by omega) (by omega) (by omega) (by omega)
  by_cases h9 : r ≤ d
  · exact loop16 (2 * r + 2) 0 _ _ _ (by omega) (by omega) (by rw [e4]; omega) (by rw [Nat.add_zero, Nat.min_eq_right (by omega), (z (by omega)).1]) (by rw [Nat.add_zero, Nat.min_eq_right (by omega), (z (by omega)).2]; rfl)
  · exact loop16 (2 * r + 2) 0 _ _ _ (by omega) (by omega) (by rw [e4]; omega) (by rw [Nat.add_zero, show d - r = 0 by omega]; rfl) (by rw [Nat.add_zero, show d - r = 0 by omega]; rfl)
