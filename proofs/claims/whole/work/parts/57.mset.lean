set_option maxHeartbeats 4000000 in
set_option maxRecDepth 100000 in
theorem M_set {w : WT} (hI : xI w) (l : Launch) (G : GS) (x v : Int32) (B : Nat) (hR : MR G) (hV : AV (aOf G) B) : Mi w l yX6_set cX6_set 4 (some .int) ⟨2, 0, 0, 43⟩ [.ref (w.2.2 239), .int x, .int v] G (fun v9 G' => v9 = qSet (aOf G) x v ∧ PMq G G' (tSet (aOf G) x v)) := by
  refine mk_i (L0 := [(0, .ref (w.2.2 239)), (1, .int x), (2, .int v)]) hI (by decide +kernel) rfl (Nat.le_of_ble_eq_true rfl) (fun _ _ _ => rfl) (fun K hc hret => ?_)
  have hn : aN (aOf G) ≤ 4 := hV.1
  have h300 : G 240 300 = nI (dN (G 240)) := hV.2.1.1.2
  have hdN : dN (G 240) < 20 := hV.2.1.1.1
  have h303a : G 240 303 = nI (rN (G 240)) := hV.2.1.2.2.1.2
  have hrN : rN (G 240) ≤ 9 := hV.2.1.2.2.1.1
  have hsn : rSn (G 240) (cN (G 240)) := hV.2.1.2.2.2.2.1
  have hcN := hsn.1
  refine x_iload_n (pc := 0) hc dX6_set_0 1 rfl ?_
  refine x_iload_n (pc := 1) hc dX6_set_1 2 rfl ?_
  refine x_callSi (pc := 2) hc cl_X6_88 [.int x, .int v] (m_X6_canSet hI (kl K) G x v) rfl rfl (by simp [Value.category]) rfl rfl ⟨by decide, by decide⟩ dX6_set_2 (fun r2 Gc2 q2 => ?_)
  obtain ⟨er2, eGc2⟩ := q2
  rw [eGc2]
  subst er2
  refine x_if_ne (pc := 5) hc dX6_set_5 11 (by decide) (fun c5 => ?_) (fun c5 => ?_)
  · obtain ⟨d, hd, rfl⟩ := canSet_f c5
    have zd : (nI d).toNatClampNeg = d := nI_clamp (by omega)
    refine x_aload_n (pc := 11) hc dX6_set_11 0 rfl ?_
    refine x_get (pc := 12) hc cfR kcX6 0 (by decide) fl_X6_7 rfl dX6_set_12 ?_
    refine x_sipush (v := 303) (pc := 15) hc dX6_set_15 (by decide) ?_
    refine x_iload_n (pc := 18) hc dX6_set_18 1 rfl ?_
    refine x_iadd (pc := 19) hc dX6_set_19 ?_
    refine x_as (nI (303 + d)) (nI_add _ _) ?_
    refine x_iald (pc := 20) hc af0 (vp_in_nI (by omega) (by decide)) dX6_set_20 ?_
    refine x_as (G 240 (303 + d)) (congrArg _ (nI_clamp (by omega))) ?_
    refine x_nm (fun x21 ex21 => ?_)
    refine x_istore_n (pc := 21) (L' := [(3, .int x21), (0, .ref (w.2.2 239)), (1, .int (nI d)), (2, .int v)]) hc dX6_set_21 (by decide) rfl ?_
    refine x_iload_n (pc := 22) hc dX6_set_22 0 rfl ?_
    refine x_iload_n (pc := 23) hc dX6_set_23 3 rfl ?_
    refine x_icmp_ne (pc := 24) hc dX6_set_24 30 (by decide) (fun c24 => ?_) (fun c24 => ?_)
    · refine x_aload_n (pc := 30) hc dX6_set_30 1 rfl ?_
      refine x_callVv (pc := 31) hc cl_X6_79 cfR kcX6 [] (m_X6_remembers hI (kl K) G (aN (aOf G)) hn hR.1) rfl rfl (by simp [Value.category]) rfl rfl ⟨by decide, by decide⟩ dX6_set_31 (fun Gc31 q31 => ?_)
      rw [q31]
      refine x_G (rem_gm G (aN (aOf G))) ?_
      refine x_aload_n (pc := 34) hc dX6_set_34 1 rfl ?_
      refine x_get (pc := 35) hc cfR kcX6 0 (by decide) fl_X6_7 rfl dX6_set_35 ?_
      refine x_sipush (v := 303) (pc := 38) hc dX6_set_38 (by decide) ?_
      refine x_iload_n (pc := 41) hc dX6_set_41 2 rfl ?_
      refine x_iadd (pc := 42) hc dX6_set_42 ?_
      refine x_as (nI (303 + d)) (nI_add _ _) ?_
      refine x_iload_n (pc := 43) hc dX6_set_43 3 rfl ?_
      refine x_iast (pc := 44) hc af0 (vp_in_nI (by omega) (by decide)) dX6_set_44 ?_
      refine x_G (gm_st (i := 303 + d) (by omega) (by omega)) ?_
      refine x_fn (fun z => GM (remG G (aN (aOf G))) 0 (G 240) z (G 244)) (fun f1 ef1 => ?_)
      refine x_iload_n (pc := 45) hc dX6_set_45 0 rfl ?_
      refine x_sipush (v := 1000) (pc := 46) hc dX6_set_46 (by decide) ?_
      refine x_iadd (pc := 49) hc dX6_set_49 ?_
      exact hret _ _ _ _ dX6_set_50 ⟨(by
          subst ex21
          subst ef1
          unfold qSet
          rw [if_neg (c5), zd, if_neg (c24)]
          all_goals rfl), (by
          subst ex21
          subst ef1
          unfold tSet
          rw [if_neg (c5), zd, if_neg (c24)]
          exact PMq_gm hR hn)⟩
    · refine x_bipush (v := (-5)) (pc := 27) hc dX6_set_27 (by decide) ?_
      exact hret _ _ _ _ dX6_set_29 ⟨(by
          subst ex21
          unfold qSet
          rw [if_neg (c5), zd, if_pos (c24)]
          all_goals rfl), (by
          subst ex21
          unfold tSet
          rw [if_neg (c5), zd, if_pos (c24)]
          exact PMq_same hR (fun _ _ => rfl))⟩
  · refine x_bipush (v := (-2)) (pc := 8) hc dX6_set_8 (by decide) ?_
    exact hret _ _ _ _ dX6_set_10 ⟨(by
        unfold qSet
        rw [if_pos (c5)]
        all_goals rfl), (by
        unfold tSet
        rw [if_pos (c5)]
        exact PMq_same hR (fun _ _ => rfl))⟩
