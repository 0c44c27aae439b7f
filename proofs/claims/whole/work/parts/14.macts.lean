set_option maxHeartbeats 4000000 in
set_option maxRecDepth 100000 in
theorem M_measure {w : WT} (hI : xI w) (l : Launch) (G : GS) (v : Int32) (B : Nat) (hR : MR G) (hV : AV (aOf G) B) : Mi w l yX6_measure cX6_measure 2 (some .int) ⟨6, 0, 0, 138⟩ [.ref (w.2.2 239), .int v] G (fun v9 G' => v9 = qMeasure (aOf G) v ∧ PMq G G' (tMeasure (aOf G) v)) := by
  refine mk_i (L0 := [(0, .ref (w.2.2 239)), (1, .int v)]) hI (by decide +kernel) rfl (Nat.le_of_ble_eq_true rfl) (fun _ _ _ => rfl) (fun K hc hret => ?_)
  have hn : aN (aOf G) ≤ 4 := hV.1
  have h300 : G 240 300 = nI (dN (G 240)) := hV.2.1.1.2
  have hdN : dN (G 240) < 20 := hV.2.1.1.1
  have h303a : G 240 303 = nI (rN (G 240)) := hV.2.1.2.2.1.2
  have hrN : rN (G 240) ≤ 9 := hV.2.1.2.2.1.1
  have hsn : rSn (G 240) (cN (G 240)) := hV.2.1.2.2.2.2.1
  have hcN := hsn.1
  refine x_iload_n (pc := 0) hc dX6_measure_0 1 rfl ?_
  refine x_bipush (v := (-40)) (pc := 1) hc dX6_measure_1 (by decide) ?_
  refine x_bipush (v := 40) (pc := 3) hc dX6_measure_3 (by decide) ?_
  refine x_callSi (pc := 5) hc cl_X6_29 [.int v, .int (-40), .int 40] (m_X6_in hI (kl K) G v (-40) 40) rfl rfl (by simp [Value.category]) rfl rfl ⟨by decide, by decide⟩ dX6_measure_5 (fun r5 Gc5 q5 => ?_)
  obtain ⟨er5, eGc5⟩ := q5
  rw [eGc5]
  subst er5
  refine x_if_ne (pc := 8) hc dX6_measure_8 14 (by decide) (fun c8 => ?_) (fun c8 => ?_)
  · refine x_aload_n (pc := 14) hc dX6_measure_14 0 rfl ?_
    refine x_callVv (pc := 15) hc cl_X6_79 cfR kcX6 [] (m_X6_remembers hI (kl K) G (aN (aOf G)) hn hR.1) rfl rfl (by simp [Value.category]) rfl rfl ⟨by decide, by decide⟩ dX6_measure_15 (fun Gc15 q15 => ?_)
    rw [q15]
    refine x_G (rem_gm G (aN (aOf G))) ?_
    refine x_aload_n (pc := 18) hc dX6_measure_18 0 rfl ?_
    refine x_iconst (v := 0) (pc := 19) hc dX6_measure_19 (by decide) ?_
    refine x_iload_n (pc := 20) hc dX6_measure_20 1 rfl ?_
    refine x_callVi (pc := 21) hc cl_X6_82 cfR kcX6 [.int 0, .int v] (m_X6_measures hI (kl K) (remG G (aN (aOf G))) v (dN (G 240)) (cN (G 240)) (rN (G 240)) 0 (G 240) (G 240) (G 244) (by omega) hdN h300 hsn ⟨hrN, Or.inl ⟨rfl, h303a⟩⟩) rfl rfl (by simp [Value.category]) rfl rfl ⟨by decide, by decide⟩ dX6_measure_21 (fun r21 Gc21 q21 => ?_)
    obtain ⟨e9, f9⟩ := q21
    subst e9
    rw [f9]
    refine x_sipush (v := 1000) (pc := 24) hc dX6_measure_24 (by decide) ?_
    refine x_iadd (pc := 27) hc dX6_measure_27 ?_
    exact hret _ _ _ _ dX6_measure_28 ⟨(by
        unfold qMeasure
        rw [if_neg (c8)]
        all_goals rfl), (by
        unfold tMeasure
        rw [if_neg (c8)]
        exact PMq_gm hR hn)⟩
  · refine x_bipush (v := (-2)) (pc := 11) hc dX6_measure_11 (by decide) ?_
    exact hret _ _ _ _ dX6_measure_13 ⟨(by
        unfold qMeasure
        rw [if_pos (c8)]
        all_goals rfl), (by
        unfold tMeasure
        rw [if_pos (c8)]
        exact PMq_same hR (fun _ _ => rfl))⟩
set_option maxHeartbeats 4000000 in
set_option maxRecDepth 100000 in
theorem M_base {w : WT} (hI : xI w) (l : Launch) (G : GS) (x b : Int32) (B : Nat) (hR : MR G) (hV : AV (aOf G) B) : Mi w l yX6_base cX6_base 4 (some .int) ⟨2, 0, 0, 42⟩ [.ref (w.2.2 239), .int x, .int b] G (fun v9 G' => v9 = qBase (aOf G) x b ∧ PMq G G' (tBase (aOf G) x b)) := by
  refine mk_i (L0 := [(0, .ref (w.2.2 239)), (1, .int x), (2, .int b)]) hI (by decide +kernel) rfl (Nat.le_of_ble_eq_true rfl) (fun _ _ _ => rfl) (fun K hc hret => ?_)
  have hn : aN (aOf G) ≤ 4 := hV.1
  have h300 : G 240 300 = nI (dN (G 240)) := hV.2.1.1.2
  have hdN : dN (G 240) < 20 := hV.2.1.1.1
  have h303a : G 240 303 = nI (rN (G 240)) := hV.2.1.2.2.1.2
  have hrN : rN (G 240) ≤ 9 := hV.2.1.2.2.1.1
  have hsn : rSn (G 240) (cN (G 240)) := hV.2.1.2.2.2.2.1
  have hcN := hsn.1
  refine x_iload_n (pc := 0) hc dX6_base_0 1 rfl ?_
  refine x_callSi (pc := 1) hc cl_X6_48 [.int x] (m_X6_isDay hI (kl K) G x) rfl rfl (by simp [Value.category]) rfl rfl ⟨by decide, by decide⟩ dX6_base_1 (fun r1 Gc1 q1 => ?_)
  obtain ⟨er1, eGc1⟩ := q1
  rw [eGc1]
  subst er1
  refine x_if_ne (pc := 4) hc dX6_base_4 9 (by decide) (fun c4 => ?_) (fun c4 => ?_)
  · obtain ⟨d, hd, rfl⟩ := inB_nat (n := 19) rfl c4
    have zd : (nI d).toNatClampNeg = d := nI_clamp (by omega)
    refine x_iload_n (pc := 9) hc dX6_base_9 2 rfl ?_
    refine x_bipush (v := (-40)) (pc := 10) hc dX6_base_10 (by decide) ?_
    refine x_bipush (v := 40) (pc := 12) hc dX6_base_12 (by decide) ?_
    refine x_callSi (pc := 14) hc cl_X6_29 [.int b, .int (-40), .int 40] (m_X6_in hI (kl K) G b (-40) 40) rfl rfl (by simp [Value.category]) rfl rfl ⟨by decide, by decide⟩ dX6_base_14 (fun r14 Gc14 q14 => ?_)
    obtain ⟨er14, eGc14⟩ := q14
    rw [eGc14]
    subst er14
    refine x_if_ne (pc := 17) hc dX6_base_17 23 (by decide) (fun c17 => ?_) (fun c17 => ?_)
    · refine x_iload_n (pc := 23) hc dX6_base_23 1 rfl ?_
      refine x_aload_n (pc := 24) hc dX6_base_24 0 rfl ?_
      refine x_get (pc := 25) hc cfR kcX6 0 (by decide) fl_X6_7 rfl dX6_base_25 ?_
      refine x_sipush (v := 300) (pc := 28) hc dX6_base_28 (by decide) ?_
      refine x_as (nI 300) rfl ?_
      refine x_iald (pc := 31) hc af0 (vp_in_nI (by omega) (by decide)) dX6_base_31 ?_
      refine x_as (G 240 300) (congrArg _ (nI_clamp (by omega))) ?_
      refine x_icmp_ge (pc := 32) hc dX6_base_32 38 (by decide) (fun c32 => ?_) (fun c32 => ?_)
      · refine x_aload_n (pc := 38) hc dX6_base_38 0 rfl ?_
        refine x_get (pc := 39) hc cfR kcX6 0 (by decide) fl_X6_7 rfl dX6_base_39 ?_
        refine x_iconst (v := 0) (pc := 42) hc dX6_base_42 (by decide) ?_
        refine x_iload_n (pc := 43) hc dX6_base_43 1 rfl ?_
        refine x_iadd (pc := 44) hc dX6_base_44 ?_
        refine x_as (nI d) (Int32.zero_add _) ?_
        refine x_iald (pc := 45) hc af0 (vp_in_nI (by omega) (by decide)) dX6_base_45 ?_
        refine x_as (G 240 d) (congrArg _ (nI_clamp (by omega))) ?_
        refine x_nm (fun x46 ex46 => ?_)
        refine x_istore_n (pc := 46) (L' := [(3, .int x46), (0, .ref (w.2.2 239)), (1, .int (nI d)), (2, .int b)]) hc dX6_base_46 (by decide) rfl ?_
        refine x_iload_n (pc := 47) hc dX6_base_47 0 rfl ?_
        refine x_iload_n (pc := 48) hc dX6_base_48 3 rfl ?_
        refine x_icmp_ne (pc := 49) hc dX6_base_49 55 (by decide) (fun c49 => ?_) (fun c49 => ?_)
        · refine x_aload_n (pc := 55) hc dX6_base_55 1 rfl ?_
          refine x_callVv (pc := 56) hc cl_X6_79 cfR kcX6 [] (m_X6_remembers hI (kl K) G (aN (aOf G)) hn hR.1) rfl rfl (by simp [Value.category]) rfl rfl ⟨by decide, by decide⟩ dX6_base_56 (fun Gc56 q56 => ?_)
          rw [q56]
          refine x_G (rem_gm G (aN (aOf G))) ?_
          refine x_aload_n (pc := 59) hc dX6_base_59 1 rfl ?_
          refine x_get (pc := 60) hc cfR kcX6 0 (by decide) fl_X6_7 rfl dX6_base_60 ?_
          refine x_iconst (v := 0) (pc := 63) hc dX6_base_63 (by decide) ?_
          refine x_iload_n (pc := 64) hc dX6_base_64 2 rfl ?_
          refine x_iadd (pc := 65) hc dX6_base_65 ?_
          refine x_as (nI d) (Int32.zero_add _) ?_
          refine x_iload_n (pc := 66) hc dX6_base_66 3 rfl ?_
          refine x_iast (pc := 67) hc af0 (vp_in_nI (by omega) (by decide)) dX6_base_67 ?_
          refine x_G (gm_st (i := d) (by omega) (by omega)) ?_
          refine x_fn (fun z => GM (remG G (aN (aOf G))) 0 (G 240) z (G 244)) (fun f1 ef1 => ?_)
          refine x_iload_n (pc := 68) hc dX6_base_68 0 rfl ?_
          refine x_sipush (v := 1000) (pc := 69) hc dX6_base_69 (by decide) ?_
          refine x_iadd (pc := 72) hc dX6_base_72 ?_
          exact hret _ _ _ _ dX6_base_73 ⟨(by
              subst ex46
              subst ef1
              unfold qBase
              rw [if_neg (c4), if_neg (c17), if_neg (Int32.not_lt.mpr c32), zd, if_neg (c49)]
              all_goals rfl), (by
              subst ex46
              subst ef1
              unfold tBase
              rw [if_neg (c4), if_neg (c17), if_neg (Int32.not_lt.mpr c32), zd, if_neg (c49)]
              exact PMq_gm hR hn)⟩
        · refine x_bipush (v := (-5)) (pc := 52) hc dX6_base_52 (by decide) ?_
          exact hret _ _ _ _ dX6_base_54 ⟨(by
              subst ex46
              unfold qBase
              rw [if_neg (c4), if_neg (c17), if_neg (Int32.not_lt.mpr c32), zd, if_pos (c49)]
              all_goals rfl), (by
              subst ex46
              unfold tBase
              rw [if_neg (c4), if_neg (c17), if_neg (Int32.not_lt.mpr c32), zd, if_pos (c49)]
              exact PMq_same hR (fun _ _ => rfl))⟩
      · refine x_bipush (v := (-4)) (pc := 35) hc dX6_base_35 (by decide) ?_
        exact hret _ _ _ _ dX6_base_37 ⟨(by
            unfold qBase
            rw [if_neg (c4), if_neg (c17), if_pos (Int32.not_le.mp c32)]
            all_goals rfl), (by
            unfold tBase
            rw [if_neg (c4), if_neg (c17), if_pos (Int32.not_le.mp c32)]
            exact PMq_same hR (fun _ _ => rfl))⟩
    · refine x_bipush (v := (-2)) (pc := 20) hc dX6_base_20 (by decide) ?_
      exact hret _ _ _ _ dX6_base_22 ⟨(by
          unfold qBase
          rw [if_neg (c4), if_pos (c17)]
          all_goals rfl), (by
          unfold tBase
          rw [if_neg (c4), if_pos (c17)]
          exact PMq_same hR (fun _ _ => rfl))⟩
  · refine x_iconst (v := (-1)) (pc := 7) hc dX6_base_7 (by decide) ?_
    exact hret _ _ _ _ dX6_base_8 ⟨(by
        unfold qBase
        rw [if_pos (c4)]
        all_goals rfl), (by
        unfold tBase
        rw [if_pos (c4)]
        exact PMq_same hR (fun _ _ => rfl))⟩
set_option maxHeartbeats 4000000 in
set_option maxRecDepth 100000 in
theorem M_saint {w : WT} (hI : xI w) (l : Launch) (G : GS) (x b e t : Int32) (B : Nat) (hR : MR G) (hV : AV (aOf G) B) : Mi w l yX6_saint cX6_saint 6 (some .int) ⟨2, 0, 0, 42⟩ [.ref (w.2.2 239), .int x, .int b, .int e, .int t] G (fun v9 G' => v9 = qSaint (aOf G) x b e t ∧ PMq G G' (tSaint (aOf G) x b e t)) := by
  refine mk_i (L0 := [(0, .ref (w.2.2 239)), (1, .int x), (2, .int b), (3, .int e), (4, .int t)]) hI (by decide +kernel) rfl (Nat.le_of_ble_eq_true rfl) (fun _ _ _ => rfl) (fun K hc hret => ?_)
  have hn : aN (aOf G) ≤ 4 := hV.1
  have h300 : G 240 300 = nI (dN (G 240)) := hV.2.1.1.2
  have hdN : dN (G 240) < 20 := hV.2.1.1.1
  have h303a : G 240 303 = nI (rN (G 240)) := hV.2.1.2.2.1.2
  have hrN : rN (G 240) ≤ 9 := hV.2.1.2.2.1.1
  have hsn : rSn (G 240) (cN (G 240)) := hV.2.1.2.2.2.2.1
  have hcN := hsn.1
  refine x_iload_n (pc := 0) hc dX6_saint_0 1 rfl ?_
  refine x_callSi (pc := 1) hc cl_X6_48 [.int x] (m_X6_isDay hI (kl K) G x) rfl rfl (by simp [Value.category]) rfl rfl ⟨by decide, by decide⟩ dX6_saint_1 (fun r1 Gc1 q1 => ?_)
  obtain ⟨er1, eGc1⟩ := q1
  rw [eGc1]
  subst er1
  refine x_if_ne (pc := 4) hc dX6_saint_4 9 (by decide) (fun c4 => ?_) (fun c4 => ?_)
  · refine x_iload_n (pc := 9) hc dX6_saint_9 2 rfl ?_
    refine x_bipush (v := (-40)) (pc := 10) hc dX6_saint_10 (by decide) ?_
    refine x_bipush (v := 40) (pc := 12) hc dX6_saint_12 (by decide) ?_
    refine x_callSi (pc := 14) hc cl_X6_29 [.int b, .int (-40), .int 40] (m_X6_in hI (kl K) G b (-40) 40) rfl rfl (by simp [Value.category]) rfl rfl ⟨by decide, by decide⟩ dX6_saint_14 (fun r14 Gc14 q14 => ?_)
    obtain ⟨er14, eGc14⟩ := q14
    rw [eGc14]
    subst er14
    refine x_if_eq (pc := 17) hc dX6_saint_17 42 (by decide) (fun c17 => ?_) (fun c17 => ?_)
    · refine x_bipush (v := (-2)) (pc := 42) hc dX6_saint_42 (by decide) ?_
      exact hret _ _ _ _ dX6_saint_44 ⟨(by
          unfold qSaint
          rw [if_neg (c4), if_pos (c17)]
          all_goals rfl), (by
          unfold tSaint
          rw [if_neg (c4), if_pos (c17)]
          exact PMq_same hR (fun _ _ => rfl))⟩
    · refine x_iload_n (pc := 20) hc dX6_saint_20 3 rfl ?_
      refine x_bipush (v := (-20)) (pc := 21) hc dX6_saint_21 (by decide) ?_
      refine x_bipush (v := 20) (pc := 23) hc dX6_saint_23 (by decide) ?_
      refine x_callSi (pc := 25) hc cl_X6_29 [.int e, .int (-20), .int 20] (m_X6_in hI (kl K) G e (-20) 20) rfl rfl (by simp [Value.category]) rfl rfl ⟨by decide, by decide⟩ dX6_saint_25 (fun r25 Gc25 q25 => ?_)
      obtain ⟨er25, eGc25⟩ := q25
      rw [eGc25]
      subst er25
      refine x_if_eq (pc := 28) hc dX6_saint_28 42 (by decide) (fun c28 => ?_) (fun c28 => ?_)
      · refine x_bipush (v := (-2)) (pc := 42) hc dX6_saint_42 (by decide) ?_
        exact hret _ _ _ _ dX6_saint_44 ⟨(by
            unfold qSaint
            rw [if_neg (c4), if_neg (c17), if_pos (c28)]
            all_goals rfl), (by
            unfold tSaint
            rw [if_neg (c4), if_neg (c17), if_pos (c28)]
            exact PMq_same hR (fun _ _ => rfl))⟩
      · refine x_iload (pc := 31) hc dX6_saint_31 4 rfl ?_
        refine x_iconst (v := 1) (pc := 33) hc dX6_saint_33 (by decide) ?_
        refine x_bipush (v := 9) (pc := 34) hc dX6_saint_34 (by decide) ?_
        refine x_callSi (pc := 36) hc cl_X6_29 [.int t, .int 1, .int 9] (m_X6_in hI (kl K) G t 1 9) rfl rfl (by simp [Value.category]) rfl rfl ⟨by decide, by decide⟩ dX6_saint_36 (fun r36 Gc36 q36 => ?_)
        obtain ⟨er36, eGc36⟩ := q36
        rw [eGc36]
        subst er36
        refine x_if_ne (pc := 39) hc dX6_saint_39 45 (by decide) (fun c39 => ?_) (fun c39 => ?_)
        · refine x_aload_n (pc := 45) hc dX6_saint_45 0 rfl ?_
          refine x_get (pc := 46) hc cfR kcX6 0 (by decide) fl_X6_7 rfl dX6_saint_46 ?_
          refine x_sipush (v := 307) (pc := 49) hc dX6_saint_49 (by decide) ?_
          refine x_as (nI 307) rfl ?_
          refine x_iald (pc := 52) hc af0 (vp_in_nI (by omega) (by decide)) dX6_saint_52 ?_
          refine x_as (G 240 307) (congrArg _ (nI_clamp (by omega))) ?_
          refine x_as (nI (cN (G 240))) hsn.2.1 ?_
          refine x_iconst (v := 5) (pc := 53) hc dX6_saint_53 (by decide) ?_
          refine x_icmp_ne (pc := 54) hc dX6_saint_54 60 (by decide) (fun c54 => ?_) (fun c54 => ?_)
          · have c54 : ¬ cN (G 240) = 5 := fun h9 => c54 ((nI_eq (a := cN (G 240)) (b := 5) (by omega) (by omega)).mpr h9)
            refine x_aload_n (pc := 60) hc dX6_saint_60 0 rfl ?_
            refine x_callVv (pc := 61) hc cl_X6_79 cfR kcX6 [] (m_X6_remembers hI (kl K) G (aN (aOf G)) hn hR.1) rfl rfl (by simp [Value.category]) rfl rfl ⟨by decide, by decide⟩ dX6_saint_61 (fun Gc61 q61 => ?_)
            rw [q61]
            refine x_G (rem_gm G (aN (aOf G))) ?_
            refine x_iconst (v := 0) (pc := 64) hc dX6_saint_64 (by decide) ?_
            refine x_aload_n (pc := 65) hc dX6_saint_65 0 rfl ?_
            refine x_get (pc := 66) hc cfR kcX6 0 (by decide) fl_X6_7 rfl dX6_saint_66 ?_
            refine x_sipush (v := 307) (pc := 69) hc dX6_saint_69 (by decide) ?_
            refine x_as (nI 307) rfl ?_
            refine x_iald (pc := 72) hc af0 (vp_in_nI (by omega) (by decide)) dX6_saint_72 ?_
            refine x_as ((G 240) 307) (gm_ld (by omega) (by omega)) ?_
            refine x_as (nI (cN (G 240))) hsn.2.1 ?_
            refine x_callSi (pc := 73) hc cl_X6_37 [.int 0, .int (nI (cN (G 240)))] (m_X6_saintAt hI (kl K) (GM (remG G (aN (aOf G))) 0 (G 240) (G 240) (G 244)) 0 (cN (G 240))) rfl rfl (by simp [Value.category]) rfl rfl ⟨by decide, by decide⟩ dX6_saint_73 (fun r73 Gc73 q73 => ?_)
            obtain ⟨er73, eGc73⟩ := q73
            rw [eGc73]
            subst er73
            refine x_as (nI (308 + 4 * (cN (G 240)))) (congrArg nI (by omega)) ?_
            refine x_istore (pc := 76) (L' := [(5, .int (nI (308 + 4 * (cN (G 240))))), (0, .ref (w.2.2 239)), (1, .int x), (2, .int b), (3, .int e), (4, .int t)]) hc dX6_saint_76 (by decide) rfl ?_
            refine x_aload_n (pc := 78) hc dX6_saint_78 1 rfl ?_
            refine x_get (pc := 79) hc cfR kcX6 0 (by decide) fl_X6_7 rfl dX6_saint_79 ?_
            refine x_iload (pc := 82) hc dX6_saint_82 0 rfl ?_
            refine x_iload_n (pc := 84) hc dX6_saint_84 2 rfl ?_
            refine x_iast (pc := 85) hc af0 (vp_in_nI (by omega) (by decide)) dX6_saint_85 ?_
            refine x_G (gm_st (i := 308 + 4 * (cN (G 240))) (by omega) (by omega)) ?_
            refine x_fn (fun z => GM (remG G (aN (aOf G))) 0 (G 240) z (G 244)) (fun f1 ef1 => ?_)
            refine x_aload_n (pc := 86) hc dX6_saint_86 1 rfl ?_
            refine x_get (pc := 87) hc cfR kcX6 0 (by decide) fl_X6_7 rfl dX6_saint_87 ?_
            refine x_iload (pc := 90) hc dX6_saint_90 0 rfl ?_
            refine x_iconst (v := 1) (pc := 92) hc dX6_saint_92 (by decide) ?_
            refine x_iadd (pc := 93) hc dX6_saint_93 ?_
            refine x_as (nI (308 + 4 * (cN (G 240)) + 1)) (nI_add _ _) ?_
            refine x_iload_n (pc := 94) hc dX6_saint_94 3 rfl ?_
            refine x_iast (pc := 95) hc af0 (vp_in_nI (by omega) (by decide)) dX6_saint_95 ?_
            refine x_G (gm_st (i := 308 + 4 * (cN (G 240)) + 1) (by omega) (by omega)) ?_
            refine x_fn (fun z => GM (remG G (aN (aOf G))) 0 (G 240) z (G 244)) (fun f2 ef2 => ?_)
            refine x_aload_n (pc := 96) hc dX6_saint_96 1 rfl ?_
            refine x_get (pc := 97) hc cfR kcX6 0 (by decide) fl_X6_7 rfl dX6_saint_97 ?_
            refine x_iload (pc := 100) hc dX6_saint_100 0 rfl ?_
            refine x_iconst (v := 2) (pc := 102) hc dX6_saint_102 (by decide) ?_
            refine x_iadd (pc := 103) hc dX6_saint_103 ?_
            refine x_as (nI (308 + 4 * (cN (G 240)) + 2)) (nI_add _ _) ?_
            refine x_iload_n (pc := 104) hc dX6_saint_104 4 rfl ?_
            refine x_iast (pc := 105) hc af0 (vp_in_nI (by omega) (by decide)) dX6_saint_105 ?_
            refine x_G (gm_st (i := 308 + 4 * (cN (G 240)) + 2) (by omega) (by omega)) ?_
            refine x_fn (fun z => GM (remG G (aN (aOf G))) 0 (G 240) z (G 244)) (fun f3 ef3 => ?_)
            refine x_aload_n (pc := 106) hc dX6_saint_106 1 rfl ?_
            refine x_get (pc := 107) hc cfR kcX6 0 (by decide) fl_X6_7 rfl dX6_saint_107 ?_
            refine x_iload (pc := 110) hc dX6_saint_110 0 rfl ?_
            refine x_iconst (v := 3) (pc := 112) hc dX6_saint_112 (by decide) ?_
            refine x_iadd (pc := 113) hc dX6_saint_113 ?_
            refine x_as (nI (308 + 4 * (cN (G 240)) + 3)) (nI_add _ _) ?_
            refine x_iload (pc := 114) hc dX6_saint_114 5 rfl ?_
            refine x_iast (pc := 116) hc af0 (vp_in_nI (by omega) (by decide)) dX6_saint_116 ?_
            refine x_G (gm_st (i := 308 + 4 * (cN (G 240)) + 3) (by omega) (by omega)) ?_
            refine x_fn (fun z => GM (remG G (aN (aOf G))) 0 (G 240) z (G 244)) (fun f4 ef4 => ?_)
            refine x_aload_n (pc := 117) hc dX6_saint_117 1 rfl ?_
            refine x_get (pc := 118) hc cfR kcX6 0 (by decide) fl_X6_7 rfl dX6_saint_118 ?_
            refine x_sipush (v := 307) (pc := 121) hc dX6_saint_121 (by decide) ?_
            refine x_dup2ir (pc := 124) hc dX6_saint_124 ?_
            refine x_as (nI 307) rfl ?_
            refine x_iald (pc := 125) hc af0 (vp_in_nI (by omega) (by decide)) dX6_saint_125 ?_
            refine x_as (f4 307) (gm_ld (by omega) (by omega)) ?_
            refine x_as (nI (cN (G 240))) (by
              subst ef1
              subst ef2
              subst ef3
              subst ef4
              rw [upd_n _ _ (by omega), upd_n _ _ (by omega), upd_n _ _ (by omega), upd_n _ _ (by omega)]
              exact hsn.2.1) ?_
            refine x_iconst (v := 1) (pc := 126) hc dX6_saint_126 (by decide) ?_
            refine x_iadd (pc := 127) hc dX6_saint_127 ?_
            refine x_as (nI (cN (G 240) + 1)) (nI_add _ _) ?_
            refine x_as2 (nI 307) rfl ?_
            refine x_iast (pc := 128) hc af0 (vp_in_nI (by omega) (by decide)) dX6_saint_128 ?_
            refine x_G (gm_st (i := 307) (by omega) (by omega)) ?_
            refine x_fn (fun z => GM (remG G (aN (aOf G))) 0 (G 240) z (G 244)) (fun f5 ef5 => ?_)
            refine x_aload_n (pc := 129) hc dX6_saint_129 1 rfl ?_
            refine x_get (pc := 130) hc cfR kcX6 0 (by decide) fl_X6_7 rfl dX6_saint_130 ?_
            refine x_sipush (v := 307) (pc := 133) hc dX6_saint_133 (by decide) ?_
            refine x_as (nI 307) rfl ?_
            refine x_iald (pc := 136) hc af0 (vp_in_nI (by omega) (by decide)) dX6_saint_136 ?_
            refine x_as (f5 307) (gm_ld (by omega) (by omega)) ?_
            refine x_as (nI (cN (G 240) + 1)) (by rw [ef5, upd_s]) ?_
            refine x_iconst (v := 1) (pc := 137) hc dX6_saint_137 (by decide) ?_
            refine x_isub (pc := 138) hc dX6_saint_138 ?_
            refine x_as (nI (cN (G 240))) (nI_pred _) ?_
            exact hret _ _ _ _ dX6_saint_139 ⟨(by
                subst ef1
                subst ef2
                subst ef3
                subst ef4
                subst ef5
                unfold qSaint
                rw [if_neg (c4), if_neg (c17), if_neg (c28), if_neg (c39), if_neg (c54)]
                all_goals rfl), (by
                subst ef1
                subst ef2
                subst ef3
                subst ef4
                subst ef5
                unfold tSaint
                rw [if_neg (c4), if_neg (c17), if_neg (c28), if_neg (c39), if_neg (c54)]
                exact PMq_gm hR hn)⟩
          · have c54 : cN (G 240) = 5 := (nI_eq (a := cN (G 240)) (b := 5) (by omega) (by omega)).mp c54
            refine x_bipush (v := (-3)) (pc := 57) hc dX6_saint_57 (by decide) ?_
            exact hret _ _ _ _ dX6_saint_59 ⟨(by
                unfold qSaint
                rw [if_neg (c4), if_neg (c17), if_neg (c28), if_neg (c39), if_pos (c54)]
                all_goals rfl), (by
                unfold tSaint
                rw [if_neg (c4), if_neg (c17), if_neg (c28), if_neg (c39), if_pos (c54)]
                exact PMq_same hR (fun _ _ => rfl))⟩
        · refine x_bipush (v := (-2)) (pc := 42) hc dX6_saint_42 (by decide) ?_
          exact hret _ _ _ _ dX6_saint_44 ⟨(by
              unfold qSaint
              rw [if_neg (c4), if_neg (c17), if_neg (c28), if_pos (c39)]
              all_goals rfl), (by
              unfold tSaint
              rw [if_neg (c4), if_neg (c17), if_neg (c28), if_pos (c39)]
              exact PMq_same hR (fun _ _ => rfl))⟩
  · refine x_iconst (v := (-1)) (pc := 7) hc dX6_saint_7 (by decide) ?_
    exact hret _ _ _ _ dX6_saint_8 ⟨(by
        unfold qSaint
        rw [if_pos (c4)]
        all_goals rfl), (by
        unfold tSaint
        rw [if_pos (c4)]
        exact PMq_same hR (fun _ _ => rfl))⟩
set_option maxHeartbeats 4000000 in
set_option maxRecDepth 100000 in
theorem m_X6_isSaint {w : WT} (hI : xI w) (l : Launch) (G : GS) (x : Int32) (c : Nat) (hc5 : c ≤ 5) (hf : G 240 307 = nI c) : Mi w l yX6_isSaint cX6_isSaint 2 (some .boolean) ⟨1, 0, 0, 22⟩ [.ref (w.2.2 239), .int x] G (fun v9 G' => v9 = sB x c ∧ G' = G) := by
  refine mk_i (L0 := [(0, .ref (w.2.2 239)), (1, .int x)]) hI (by decide +kernel) rfl (Nat.le_of_ble_eq_true rfl) (fun v G9 h => by rw [h.1]; exact nz_b01 _) (fun K hc hret => ?_)
  refine x_iload_n (pc := 0) hc dX6_isSaint_0 1 rfl ?_
  refine x_iconst (v := 0) (pc := 1) hc dX6_isSaint_1 (by decide) ?_
  refine x_aload_n (pc := 2) hc dX6_isSaint_2 0 rfl ?_
  refine x_get (pc := 3) hc cfR kcX6 0 (by decide) fl_X6_7 rfl dX6_isSaint_3 ?_
  refine x_sipush (v := 307) (pc := 6) hc dX6_isSaint_6 (by decide) ?_
  refine x_as (nI 307) rfl ?_
  refine x_iald (pc := 9) hc af0 (vp_in_nI (by omega) (by decide)) dX6_isSaint_9 ?_
  refine x_as (G 240 307) (congrArg _ (nI_clamp (by omega))) ?_
  refine x_as (nI c) hf ?_
  refine x_iconst (v := 1) (pc := 10) hc dX6_isSaint_10 (by decide) ?_
  refine x_isub (pc := 11) hc dX6_isSaint_11 ?_
  refine x_callSi (pc := 12) hc cl_X6_29 [.int x, .int 0, .int ((nI c) - 1)] (m_X6_in hI (kl K) G x 0 ((nI c) - 1)) rfl rfl (by simp [Value.category]) rfl rfl ⟨by decide, by decide⟩ dX6_isSaint_12 (fun r12 Gc12 q12 => ?_)
  obtain ⟨er12, eGc12⟩ := q12
  rw [eGc12]
  subst er12
  exact hret _ _ _ _ dX6_isSaint_15 ⟨rfl, rfl⟩
theorem sB_f {x : Int32} {c : Nat} (hc : c ≤ 5) (h : ¬ sB x c = 0) : ∃ i, i < c ∧ x = nI i := by
  obtain ⟨h1, h2⟩ := inB_f h
  rw [i32_sub (by rw [nI_toInt (by omega)]; omega) (by rw [nI_toInt (by omega)]; omega) (by decide) (by decide), nI_toInt (by omega), show (1 : Int32).toInt = 1 from rfl] at h2
  have h0 : (0 : Int32).toInt = 0 := rfl
  exact ⟨x.toInt.toNat, by omega, i32_nat (by omega)⟩
theorem sB_t {x : Int32} {c : Nat} (hc : c ≤ 5) (h : sB x c = 0) (i : Nat) (hi : i < c) : x ≠ nI i := by
  intro e
  subst e
  have := inB_t h
  rw [i32_sub (by rw [nI_toInt (by omega)]; omega) (by rw [nI_toInt (by omega)]; omega) (by decide) (by decide), nI_toInt (by omega), nI_toInt (by omega), show (1 : Int32).toInt = 1 from rfl, show (0 : Int32).toInt = 0 from rfl] at this
  omega
theorem stRow_up (f : Nat → Int32) (i k : Nat) (h : 308 + 4 * i ≤ k) : upd (stRow f i k) k (stRow f i k (k + 4)) = stRow f i (k + 1) := by
  funext j
  unfold upd stRow
  by_cases e : j = k
  · rw [if_pos e, if_neg (by omega), if_pos (by omega), e]
  · rw [if_neg e]
    by_cases h2 : 308 + 4 * i ≤ j ∧ j < k
    · rw [if_pos h2, if_pos (by omega)]
    · rw [if_neg h2, if_neg (by omega)]
theorem stRow_0 (f : Nat → Int32) (i : Nat) : stRow f i (308 + 4 * i) = f := by
  funext j
  unfold stRow
  rw [if_neg (by omega)]
theorem stRow_n (f : Nat → Int32) (i k j : Nat) (h : j < 308 ∨ k ≤ j) : stRow f i k j = f j := by
  unfold stRow
  rw [if_neg (by omega)]
set_option maxHeartbeats 4000000 in
set_option maxRecDepth 100000 in
theorem M_strike {w : WT} (hI : xI w) (l : Launch) (G : GS) (x : Int32) (B : Nat) (hR : MR G) (hV : AV (aOf G) B) : Mi w l yX6_strike cX6_strike 3 (some .int) ⟨2, 0, 0, 43⟩ [.ref (w.2.2 239), .int x] G (fun v9 G' => v9 = qStrike (aOf G) x ∧ PMq G G' (tStrike (aOf G) x)) := by
  refine mk_i (L0 := [(0, .ref (w.2.2 239)), (1, .int x)]) hI (by decide +kernel) rfl (Nat.le_of_ble_eq_true rfl) (fun _ _ _ => rfl) (fun K hc hret => ?_)
  have hn : aN (aOf G) ≤ 4 := hV.1
  have h300 : G 240 300 = nI (dN (G 240)) := hV.2.1.1.2
  have hdN : dN (G 240) < 20 := hV.2.1.1.1
  have h303a : G 240 303 = nI (rN (G 240)) := hV.2.1.2.2.1.2
  have hrN : rN (G 240) ≤ 9 := hV.2.1.2.2.1.1
  have hsn : rSn (G 240) (cN (G 240)) := hV.2.1.2.2.2.2.1
  have hcN := hsn.1
  refine x_aload_n (pc := 0) hc dX6_strike_0 0 rfl ?_
  refine x_iload_n (pc := 1) hc dX6_strike_1 1 rfl ?_
  refine x_callVi (pc := 2) hc cl_X6_85 cfR kcX6 [.int x] (m_X6_isSaint hI (kl K) G x (cN (G 240)) hcN hsn.2.1) rfl rfl (by simp [Value.category]) rfl rfl ⟨by decide, by decide⟩ dX6_strike_2 (fun r2 Gc2 q2 => ?_)
  obtain ⟨er2, eGc2⟩ := q2
  rw [eGc2]
  subst er2
  refine x_if_ne (pc := 5) hc dX6_strike_5 10 (by decide) (fun c5 => ?_) (fun c5 => ?_)
  · obtain ⟨i, hi, rfl⟩ := sB_f hcN c5
    have zi : (nI i).toNatClampNeg = i := nI_clamp (by omega)
    obtain ⟨c, hce⟩ : ∃ c, cN (G 240) = c + 1 := ⟨cN (G 240) - 1, by omega⟩
    refine x_aload_n (pc := 10) hc dX6_strike_10 0 rfl ?_
    refine x_callVv (pc := 11) hc cl_X6_79 cfR kcX6 [] (m_X6_remembers hI (kl K) G (aN (aOf G)) hn hR.1) rfl rfl (by simp [Value.category]) rfl rfl ⟨by decide, by decide⟩ dX6_strike_11 (fun Gc11 q11 => ?_)
    rw [q11]
    refine x_G (rem_gm G (aN (aOf G))) ?_
    refine x_aload_n (pc := 14) hc dX6_strike_14 0 rfl ?_
    refine x_get (pc := 15) hc cfR kcX6 0 (by decide) fl_X6_7 rfl dX6_strike_15 ?_
    refine x_sipush (v := 307) (pc := 18) hc dX6_strike_18 (by decide) ?_
    refine x_dup2ir (pc := 21) hc dX6_strike_21 ?_
    refine x_as (nI 307) rfl ?_
    refine x_iald (pc := 22) hc af0 (vp_in_nI (by omega) (by decide)) dX6_strike_22 ?_
    refine x_as ((G 240) 307) (gm_ld (by omega) (by omega)) ?_
    refine x_as (nI (c + 1)) (hsn.2.1.trans (congrArg nI hce)) ?_
    refine x_iconst (v := 1) (pc := 23) hc dX6_strike_23 (by decide) ?_
    refine x_isub (pc := 24) hc dX6_strike_24 ?_
    refine x_as (nI c) (nI_pred _) ?_
    refine x_as2 (nI 307) rfl ?_
    refine x_iast (pc := 25) hc af0 (vp_in_nI (by omega) (by decide)) dX6_strike_25 ?_
    refine x_G (gm_st (i := 307) (by omega) (by omega)) ?_
    refine x_fn (fun z => GM (remG G (aN (aOf G))) 0 (G 240) z (G 244)) (fun f1 ef1 => ?_)
    refine x_iconst (v := 0) (pc := 26) hc dX6_strike_26 (by decide) ?_
    refine x_iload_n (pc := 27) hc dX6_strike_27 1 rfl ?_
    refine x_callSi (pc := 28) hc cl_X6_37 [.int 0, .int (nI i)] (m_X6_saintAt hI (kl K) (GM (remG G (aN (aOf G))) 0 (G 240) f1 (G 244)) 0 i) rfl rfl (by simp [Value.category]) rfl rfl ⟨by decide, by decide⟩ dX6_strike_28 (fun r28 Gc28 q28 => ?_)
    obtain ⟨er28, eGc28⟩ := q28
    rw [eGc28]
    subst er28
    refine x_as (nI (308 + 4 * i)) (congrArg nI (by omega)) ?_
    refine x_istore_n (pc := 31) (L' := [(2, .int (nI (308 + 4 * i))), (0, .ref (w.2.2 239)), (1, .int (nI i))]) hc dX6_strike_31 (by decide) rfl ?_
    have loop32 : ∀ (n1 : Nat) (k : Nat), 308 + 4 * i ≤ k ∧ k ≤ 308 + 4 * c → 308 + 4 * c < k + n1 → XX w K 3 (GM (remG G (aN (aOf G))) 0 (G 240) (stRow (upd (G 240) 307 (nI c)) i k) (G 244)) 32 [(2, .int (nI k)), (0, .ref (w.2.2 239)), (1, .int (nI i))] [] := by
      intro n1
      induction n1 with
      | zero => intro k hk hf; omega
      | succ n1 ih =>
        intro k hk hf
        refine x_iload_n (pc := 32) hc dX6_strike_32 0 rfl ?_
        refine x_iconst (v := 0) (pc := 33) hc dX6_strike_33 (by decide) ?_
        refine x_aload_n (pc := 34) hc dX6_strike_34 1 rfl ?_
        refine x_get (pc := 35) hc cfR kcX6 0 (by decide) fl_X6_7 rfl dX6_strike_35 ?_
        refine x_sipush (v := 307) (pc := 38) hc dX6_strike_38 (by decide) ?_
        refine x_as (nI 307) rfl ?_
        refine x_iald (pc := 41) hc af0 (vp_in_nI (by omega) (by decide)) dX6_strike_41 ?_
        refine x_as ((stRow (upd (G 240) 307 (nI c)) i k) 307) (gm_ld (by omega) (by omega)) ?_
        refine x_as (nI c) (by rw [stRow_n _ _ _ _ (by omega)]; exact upd_s _ _ _) ?_
        refine x_callSi (pc := 42) hc cl_X6_37 [.int 0, .int (nI c)] (m_X6_saintAt hI (kl K) (GM (remG G (aN (aOf G))) 0 (G 240) (stRow (upd (G 240) 307 (nI c)) i k) (G 244)) 0 c) rfl rfl (by simp [Value.category]) rfl rfl ⟨by decide, by decide⟩ dX6_strike_42 (fun r42 Gc42 q42 => ?_)
        obtain ⟨er42, eGc42⟩ := q42
        rw [eGc42]
        subst er42
        refine x_as (nI (308 + 4 * c)) (congrArg nI (by omega)) ?_
        refine x_icmp_ge (pc := 45) hc dX6_strike_45 68 (by decide) (fun c45 => ?_) (fun c45 => ?_)
        · have c45 : 308 + 4 * c ≤ k := (nI_leI (a := 308 + 4 * c) (b := k) (by omega) (by omega)).mp c45
          refine x_aload_n (pc := 68) hc dX6_strike_68 1 rfl ?_
          refine x_get (pc := 69) hc cfR kcX6 0 (by decide) fl_X6_7 rfl dX6_strike_69 ?_
          refine x_sipush (v := 307) (pc := 72) hc dX6_strike_72 (by decide) ?_
          refine x_as (nI 307) rfl ?_
          refine x_iald (pc := 75) hc af0 (vp_in_nI (by omega) (by decide)) dX6_strike_75 ?_
          refine x_as ((stRow (upd (G 240) 307 (nI c)) i k) 307) (gm_ld (by omega) (by omega)) ?_
          refine x_as (nI c) (by rw [stRow_n _ _ _ _ (by omega)]; exact upd_s _ _ _) ?_
          exact hret _ _ _ _ dX6_strike_76 ⟨(by unfold qStrike; rw [if_neg c5, hce]; rfl), (by unfold tStrike; rw [if_neg c5, zi]; unfold rStrike; rw [hce, show c + 1 - 1 = c by omega, show 308 + 4 * c = k by omega]; exact PMq_gm hR hn)⟩
        · have c45 : ¬ 308 + 4 * c ≤ k := fun h9 => c45 ((nI_leI (a := 308 + 4 * c) (b := k) (by omega) (by omega)).mpr h9)
          refine x_aload_n (pc := 48) hc dX6_strike_48 1 rfl ?_
          refine x_get (pc := 49) hc cfR kcX6 0 (by decide) fl_X6_7 rfl dX6_strike_49 ?_
          refine x_iload_n (pc := 52) hc dX6_strike_52 0 rfl ?_
          refine x_aload_n (pc := 53) hc dX6_strike_53 1 rfl ?_
          refine x_get (pc := 54) hc cfR kcX6 0 (by decide) fl_X6_7 rfl dX6_strike_54 ?_
          refine x_iload_n (pc := 57) hc dX6_strike_57 0 rfl ?_
          refine x_iconst (v := 4) (pc := 58) hc dX6_strike_58 (by decide) ?_
          refine x_iadd (pc := 59) hc dX6_strike_59 ?_
          refine x_as (nI (k + 4)) (nI_add _ _) ?_
          refine x_iald (pc := 60) hc af0 (vp_in_nI (by omega) (by decide)) dX6_strike_60 ?_
          refine x_as ((stRow (upd (G 240) 307 (nI c)) i k) (k + 4)) (gm_ld (by omega) (by omega)) ?_
          refine x_iast (pc := 61) hc af0 (vp_in_nI (by omega) (by decide)) dX6_strike_61 ?_
          refine x_G (gm_st (i := k) (by omega) (by omega)) ?_
          refine x_fn (fun z => GM (remG G (aN (aOf G))) 0 (G 240) z (G 244)) (fun f2 ef2 => ?_)
          refine x_iinc (pc := 62) (L' := [(2, .int (nI (k + 1))), (0, .ref (w.2.2 239)), (1, .int (nI i))]) hc dX6_strike_62 0 rfl (nI (k + 1)) (nI_1 _) (by decide) rfl ?_
          refine x_goto (pc := 65) hc dX6_strike_65 32 (by decide) ?_
          refine x_loc [0, 1, 2] rfl ?_
          rw [ef2, stRow_up _ _ _ (by omega)]
          exact ih (k + 1) (by omega) (by omega)
    refine x_loc [0, 1, 2] rfl ?_
    have z8 := loop32 25 (308 + 4 * i) (by omega) (by omega)
    rw [stRow_0] at z8
    rw [ef1]
    exact z8
  · refine x_iconst (v := (-1)) (pc := 8) hc dX6_strike_8 (by decide) ?_
    exact hret _ _ _ _ dX6_strike_9 ⟨(by unfold qStrike; exact (if_pos c5).symm), (by unfold tStrike; rw [if_pos c5]; exact PMq_same hR (fun _ _ => rfl))⟩
