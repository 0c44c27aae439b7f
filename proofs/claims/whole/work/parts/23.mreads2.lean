theorem kB_f {f : Nat → Int32} {a x : Int32} (h : ¬ knB f a x = 0) : ∃ i d, i < kN f ∧ d ≤ 19 ∧ a = nI i ∧ x = nI d := by
  obtain ⟨h1, h2⟩ := b01_f h
  have hk : kN f ≤ 4 := by unfold kN; omega
  obtain ⟨i, hi, e1⟩ := sB_f (by omega) h1
  obtain ⟨d, hd, e2⟩ := inB_nat (n := 19) rfl h2
  exact ⟨i, d, hi, hd, e1, e2⟩
theorem inB_1215 {y : Int32} (h : ¬ inB y 12 15 = 0) : ∃ e, e ≤ 3 ∧ y = nI (12 + e) := by
  obtain ⟨h1, h2⟩ := inB_f h
  rw [show (12 : Int32).toInt = 12 from rfl] at h1
  rw [show (15 : Int32).toInt = 15 from rfl] at h2
  exact ⟨(y.toInt - 12).toNat, by omega, i32_nat (by omega)⟩
theorem PMq_240 {G G' : GS} (hR : MR G) (h1 : ∀ i, i < 354 → G' 240 i = G 240 i) (h : ∀ q, q ≠ 240 → q ≠ 244 → G' q = G q) : PMq G G' (aOf G) := by
  have e2 : G' 239 = G 239 := h 239 (by omega) (by omega)
  refine ⟨⟨h1, by show (G' 239 2).toNatClampNeg = _; rw [e2], fun i _ j _ => by show G' 241 _ = _; rw [h 241 (by omega) (by omega)], by show G' 239 4 = _; rw [e2], fun _ j _ => by show G' 242 j = _; rw [h 242 (by omega) (by omega)], by show (G' 239 6).toNatClampNeg = _; rw [e2], fun i _ => by show G' 243 i = _; rw [h 243 (by omega) (by omega)]⟩, ⟨?_, ?_⟩, fun q hq => h q (by omega) (by omega)⟩
  · show G' 239 2 = nI (G' 239 2).toNatClampNeg
    rw [e2]; exact hR.1
  · show G' 239 6 = nI (G' 239 6).toNatClampNeg
    rw [e2]; exact hR.2
theorem gm_p (G : GS) (p : Nat) : GM G p (G 240) (fun i => G 240 (p + i)) (G 244) = G := by
  funext q
  unfold GM up1
  split
  · rename_i h; rw [h]
  · split
    · rename_i h
      rw [h]
      funext j
      unfold lft
      split
      · rfl
      · show G 240 (p + (j - p)) = G 240 j
        rw [show p + (j - p) = j by omega]
    · rfl
set_option maxHeartbeats 4000000 in
set_option maxRecDepth 100000 in
theorem m_X6_isKnown {w : WT} (hI : xI w) (l : Launch) (G : GS) (a x : Int32) (h : G 240 302 = nI (kN (G 240))) : Mi w l yX6_isKnown cX6_isKnown 3 (some .boolean) ⟨2, 0, 0, 42⟩ [.ref (w.2.2 239), .int a, .int x] G (fun v9 G' => v9 = knB (G 240) a x ∧ G' = G) := by
  refine mk_i (L0 := [(0, .ref (w.2.2 239)), (1, .int a), (2, .int x)]) hI (by decide +kernel) rfl (Nat.le_of_ble_eq_true rfl) (fun v G9 h => by rw [h.1]; exact nz_b01 _) (fun K hc hret => ?_)
  refine x_iload_n (pc := 0) hc dX6_isKnown_0 1 rfl ?_
  refine x_iconst (v := 0) (pc := 1) hc dX6_isKnown_1 (by decide) ?_
  refine x_aload_n (pc := 2) hc dX6_isKnown_2 0 rfl ?_
  refine x_get (pc := 3) hc cfR kcX6 0 (by decide) fl_X6_7 rfl dX6_isKnown_3 ?_
  refine x_sipush (v := 302) (pc := 6) hc dX6_isKnown_6 (by decide) ?_
  refine x_as (nI 302) rfl ?_
  refine x_iald (pc := 9) hc af0 (vp_in_nI (by omega) (by decide)) dX6_isKnown_9 ?_
  refine x_as (G 240 302) (congrArg _ (nI_clamp (by omega))) ?_
  refine x_as (nI (kN (G 240))) h ?_
  refine x_iconst (v := 1) (pc := 10) hc dX6_isKnown_10 (by decide) ?_
  refine x_isub (pc := 11) hc dX6_isKnown_11 ?_
  refine x_callSi (pc := 12) hc cl_X6_29 [.int a, .int 0, .int ((nI (kN (G 240))) - 1)] (m_X6_in hI (kl K) G a 0 ((nI (kN (G 240))) - 1)) rfl rfl (by simp [Value.category]) rfl rfl ⟨by decide, by decide⟩ dX6_isKnown_12 (fun r12 Gc12 q12 => ?_)
  obtain ⟨er12, eGc12⟩ := q12
  rw [eGc12]
  subst er12
  refine x_if_eq (pc := 15) hc dX6_isKnown_15 29 (by decide) (fun c15 => ?_) (fun c15 => ?_)
  · refine x_iconst (v := 0) (pc := 29) hc dX6_isKnown_29 (by decide) ?_
    exact hret _ _ _ _ dX6_isKnown_30 ⟨(b01_neg (fun z => z.1 c15)).symm, rfl⟩
  · refine x_iload_n (pc := 18) hc dX6_isKnown_18 2 rfl ?_
    refine x_callSi (pc := 19) hc cl_X6_48 [.int x] (m_X6_isDay hI (kl K) G x) rfl rfl (by simp [Value.category]) rfl rfl ⟨by decide, by decide⟩ dX6_isKnown_19 (fun r19 Gc19 q19 => ?_)
    obtain ⟨er19, eGc19⟩ := q19
    rw [eGc19]
    subst er19
    refine x_if_eq (pc := 22) hc dX6_isKnown_22 29 (by decide) (fun c22 => ?_) (fun c22 => ?_)
    · refine x_iconst (v := 0) (pc := 29) hc dX6_isKnown_29 (by decide) ?_
      exact hret _ _ _ _ dX6_isKnown_30 ⟨(b01_neg (fun z => z.2 c22)).symm, rfl⟩
    · refine x_iconst (v := 1) (pc := 25) hc dX6_isKnown_25 (by decide) ?_
      refine x_goto (pc := 26) hc dX6_isKnown_26 30 (by decide) ?_
      exact hret _ _ _ _ dX6_isKnown_30 ⟨(b01_pos ⟨c15, c22⟩).symm, rfl⟩
set_option maxHeartbeats 4000000 in
set_option maxRecDepth 100000 in
theorem M_past {w : WT} (hI : xI w) (l : Launch) (G : GS) (a x y : Int32) (B : Nat) (hR : MR G) (hV : AV (aOf G) B) : Mi w l yX6_past cX6_past 4 (some .int) ⟨3, 0, 0, 64⟩ [.ref (w.2.2 239), .int a, .int x, .int y] G (fun v9 G' => v9 = qPast (aOf G) a x y ∧ PMq G G' (aOf G)) := by
  refine mk_i (L0 := [(0, .ref (w.2.2 239)), (1, .int a), (2, .int x), (3, .int y)]) hI (by decide +kernel) rfl (Nat.le_of_ble_eq_true rfl) (fun _ _ _ => rfl) (fun K hc hret => ?_)
  have hn : aN (aOf G) ≤ 4 := hV.1
  have h300 : G 240 300 = nI (dN (G 240)) := hV.2.1.1.2
  have hdN : dN (G 240) < 20 := hV.2.1.1.1
  have h303a : G 240 303 = nI (rN (G 240)) := hV.2.1.2.2.1.2
  have hrN : rN (G 240) ≤ 9 := hV.2.1.2.2.1.1
  have hsn : rSn (G 240) (cN (G 240)) := hV.2.1.2.2.2.2.1
  have hcN := hsn.1
  have h302 : G 240 302 = nI (kN (G 240)) := hV.2.1.2.1.2.2
  have hkN : kN (G 240) ≤ 4 := by unfold kN; omega
  refine x_aload_n (pc := 0) hc dX6_past_0 0 rfl ?_
  refine x_iload_n (pc := 1) hc dX6_past_1 1 rfl ?_
  refine x_iload_n (pc := 2) hc dX6_past_2 2 rfl ?_
  refine x_callVi (pc := 3) hc cl_X6_132 cfR kcX6 [.int a, .int x] (m_X6_isKnown hI (kl K) G a x h302) rfl rfl (by simp [Value.category]) rfl rfl ⟨by decide, by decide⟩ dX6_past_3 (fun r3 Gc3 q3 => ?_)
  obtain ⟨er3, eGc3⟩ := q3
  rw [eGc3]
  subst er3
  refine x_if_ne (pc := 6) hc dX6_past_6 11 (by decide) (fun c6 => ?_) (fun c6 => ?_)
  · obtain ⟨i, d, hi, hd, rfl, rfl⟩ := kB_f c6
    have zi : (nI i).toNatClampNeg = i := nI_clamp (by omega)
    have zd : (nI d).toNatClampNeg = d := nI_clamp (by omega)
    refine x_iload_n (pc := 11) hc dX6_past_11 3 rfl ?_
    refine x_iconst (v := 0) (pc := 12) hc dX6_past_12 (by decide) ?_
    refine x_iconst (v := 1) (pc := 13) hc dX6_past_13 (by decide) ?_
    refine x_callSi (pc := 14) hc cl_X6_29 [.int y, .int 0, .int 1] (m_X6_in hI (kl K) G y 0 1) rfl rfl (by simp [Value.category]) rfl rfl ⟨by decide, by decide⟩ dX6_past_14 (fun r14 Gc14 q14 => ?_)
    obtain ⟨er14, eGc14⟩ := q14
    rw [eGc14]
    subst er14
    refine x_if_eq (pc := 17) hc dX6_past_17 46 (by decide) (fun c17 => ?_) (fun c17 => ?_)
    · refine x_bipush (v := (-2)) (pc := 46) hc dX6_past_46 (by decide) ?_
      exact hret _ _ _ _ dX6_past_48 ⟨(by unfold qPast; rw [if_neg (c6), if_pos (c17)]), PMq_same hR (fun _ _ => rfl)⟩
    · obtain ⟨e, he, rfl⟩ := inB_nat (n := 1) rfl c17
      have ze : (nI e).toNatClampNeg = e := nI_clamp (by omega)
      refine x_aload_n (pc := 20) hc dX6_past_20 0 rfl ?_
      refine x_get (pc := 21) hc cfR kcX6 0 (by decide) fl_X6_7 rfl dX6_past_21 ?_
      refine x_bipush (v := 60) (pc := 24) hc dX6_past_24 (by decide) ?_
      refine x_bipush (v := 60) (pc := 26) hc dX6_past_26 (by decide) ?_
      refine x_iload_n (pc := 28) hc dX6_past_28 1 rfl ?_
      refine x_imul (pc := 29) hc dX6_past_29 ?_
      refine x_as (nI (60 * i)) (pk_mul _ _) ?_
      refine x_iadd (pc := 30) hc dX6_past_30 ?_
      refine x_as (nI (60 + 60 * i)) (nI_add _ _) ?_
      refine x_bipush (v := 20) (pc := 31) hc dX6_past_31 (by decide) ?_
      refine x_iload_n (pc := 33) hc dX6_past_33 3 rfl ?_
      refine x_imul (pc := 34) hc dX6_past_34 ?_
      refine x_as (nI (20 * e)) (pk_mul _ _) ?_
      refine x_iadd (pc := 35) hc dX6_past_35 ?_
      refine x_as (nI (60 + 60 * i + 20 * e)) (nI_add _ _) ?_
      refine x_iload_n (pc := 36) hc dX6_past_36 2 rfl ?_
      refine x_iadd (pc := 37) hc dX6_past_37 ?_
      refine x_as (nI (60 + 60 * i + 20 * e + d)) (nI_add _ _) ?_
      refine x_iald (pc := 38) hc af0 (vp_in_nI (by omega) (by decide)) dX6_past_38 ?_
      refine x_as (G 240 (60 + 60 * i + 20 * e + d)) (congrArg _ (nI_clamp (by omega))) ?_
      refine x_sipush (v := 1000) (pc := 39) hc dX6_past_39 (by decide) ?_
      refine x_iadd (pc := 42) hc dX6_past_42 ?_
      refine x_goto (pc := 43) hc dX6_past_43 48 (by decide) ?_
      exact hret _ _ _ _ dX6_past_48 ⟨(by unfold qPast; rw [if_neg (c6), if_neg (c17), zi, zd, ze]), PMq_same hR (fun _ _ => rfl)⟩
  · refine x_iconst (v := (-1)) (pc := 9) hc dX6_past_9 (by decide) ?_
    exact hret _ _ _ _ dX6_past_10 ⟨(by unfold qPast; rw [if_pos (c6)]), PMq_same hR (fun _ _ => rfl)⟩
set_option maxHeartbeats 4000000 in
set_option maxRecDepth 100000 in
theorem M_mean {w : WT} (hI : xI w) (l : Launch) (G : GS) (a x y : Int32) (B : Nat) (hR : MR G) (hV : AV (aOf G) B) : Mi w l yX6_mean cX6_mean 4 (some .int) ⟨3, 0, 0, 66⟩ [.ref (w.2.2 239), .int a, .int x, .int y] G (fun v9 G' => v9 = qMean (aOf G) a x y ∧ PMq G G' (aOf G)) := by
  refine mk_i (L0 := [(0, .ref (w.2.2 239)), (1, .int a), (2, .int x), (3, .int y)]) hI (by decide +kernel) rfl (Nat.le_of_ble_eq_true rfl) (fun _ _ _ => rfl) (fun K hc hret => ?_)
  have hn : aN (aOf G) ≤ 4 := hV.1
  have h300 : G 240 300 = nI (dN (G 240)) := hV.2.1.1.2
  have hdN : dN (G 240) < 20 := hV.2.1.1.1
  have h303a : G 240 303 = nI (rN (G 240)) := hV.2.1.2.2.1.2
  have hrN : rN (G 240) ≤ 9 := hV.2.1.2.2.1.1
  have hsn : rSn (G 240) (cN (G 240)) := hV.2.1.2.2.2.2.1
  have hcN := hsn.1
  have h302 : G 240 302 = nI (kN (G 240)) := hV.2.1.2.1.2.2
  have hkN : kN (G 240) ≤ 4 := by unfold kN; omega
  refine x_aload_n (pc := 0) hc dX6_mean_0 0 rfl ?_
  refine x_iload_n (pc := 1) hc dX6_mean_1 1 rfl ?_
  refine x_iload_n (pc := 2) hc dX6_mean_2 2 rfl ?_
  refine x_callVi (pc := 3) hc cl_X6_132 cfR kcX6 [.int a, .int x] (m_X6_isKnown hI (kl K) G a x h302) rfl rfl (by simp [Value.category]) rfl rfl ⟨by decide, by decide⟩ dX6_mean_3 (fun r3 Gc3 q3 => ?_)
  obtain ⟨er3, eGc3⟩ := q3
  rw [eGc3]
  subst er3
  refine x_if_ne (pc := 6) hc dX6_mean_6 11 (by decide) (fun c6 => ?_) (fun c6 => ?_)
  · obtain ⟨i, d, hi, hd, rfl, rfl⟩ := kB_f c6
    have zi : (nI i).toNatClampNeg = i := nI_clamp (by omega)
    have zd : (nI d).toNatClampNeg = d := nI_clamp (by omega)
    refine x_iload_n (pc := 11) hc dX6_mean_11 3 rfl ?_
    refine x_iconst (v := 0) (pc := 12) hc dX6_mean_12 (by decide) ?_
    refine x_iconst (v := 1) (pc := 13) hc dX6_mean_13 (by decide) ?_
    refine x_callSi (pc := 14) hc cl_X6_29 [.int y, .int 0, .int 1] (m_X6_in hI (kl K) G y 0 1) rfl rfl (by simp [Value.category]) rfl rfl ⟨by decide, by decide⟩ dX6_mean_14 (fun r14 Gc14 q14 => ?_)
    obtain ⟨er14, eGc14⟩ := q14
    rw [eGc14]
    subst er14
    refine x_if_ne (pc := 17) hc dX6_mean_17 23 (by decide) (fun c17 => ?_) (fun c17 => ?_)
    · refine x_aload_n (pc := 23) hc dX6_mean_23 0 rfl ?_
      refine x_iload_n (pc := 24) hc dX6_mean_24 1 rfl ?_
      refine x_callVv (pc := 25) hc cl_X6_135 cfR kcX6 [.int (nI i)] (gm_0 G ▸ m_X6_looks hI (kl K) G i (G 240) (G 240) (G 244) (by omega)) rfl rfl (by simp [Value.category]) rfl rfl ⟨by decide, by decide⟩ dX6_mean_25 (fun Gc25 q25 => ?_)
      rw [q25]
      refine x_iload_n (pc := 28) hc dX6_mean_28 3 rfl ?_
      refine x_if_ne (pc := 29) hc dX6_mean_29 40 (by decide) (fun c29 => ?_) (fun c29 => ?_)
      · refine x_aload_n (pc := 40) hc dX6_mean_40 0 rfl ?_
        refine x_iload_n (pc := 41) hc dX6_mean_41 2 rfl ?_
        refine x_callVi (pc := 42) hc cl_X6_138 cfR kcX6 [.int (nI d)] (m_X6_meanBySums hI (kl K) (GM G 0 (G 240) (G 240) (lkRow (G 240) (G 244) i 20)) d (rN (G 240)) (by omega) hrN (h303.at (p := 0) (s := G 240) (f := G 240) (r := rN (G 240)) ⟨hrN, Or.inl ⟨rfl, h303a⟩⟩ rfl _ _)) rfl rfl (by simp [Value.category]) rfl rfl ⟨by decide, by decide⟩ dX6_mean_42 (fun r42 Gc42 q42 => ?_)
        obtain ⟨er42, eGc42⟩ := q42
        rw [eGc42]
        subst er42
        refine x_as (meanS ((lkRow (G 240) (G 244) i 20)) d (rN (G 240))) rfl ?_
        refine x_sipush (v := 1000) (pc := 45) hc dX6_mean_45 (by decide) ?_
        refine x_iadd (pc := 48) hc dX6_mean_48 ?_
        exact hret _ _ _ _ dX6_mean_49 ⟨(by unfold qMean; rw [if_neg c6, if_neg c17, if_neg c29, zi, zd]; exact congrArg (fun z => z + 1000) (meanS_congr _ _ (by omega) (fun j hj => lkRow_in _ _ _ hj))), PMq_same hR (gm_same G _)⟩
      · refine x_aload_n (pc := 32) hc dX6_mean_32 0 rfl ?_
        refine x_iload_n (pc := 33) hc dX6_mean_33 2 rfl ?_
        refine x_callVi (pc := 34) hc cl_X6_55 cfR kcX6 [.int (nI d)] (m_X6_meanAt hI (kl K) (GM G 0 (G 240) (G 240) (lkRow (G 240) (G 244) i 20)) d (rN (G 240)) (by omega) hrN (h303.at (p := 0) (s := G 240) (f := G 240) (r := rN (G 240)) ⟨hrN, Or.inl ⟨rfl, h303a⟩⟩ rfl _ _)) rfl rfl (by simp [Value.category]) rfl rfl ⟨by decide, by decide⟩ dX6_mean_34 (fun r34 Gc34 q34 => ?_)
        obtain ⟨er34, eGc34⟩ := q34
        rw [eGc34]
        subst er34
        refine x_as (mean ((lkRow (G 240) (G 244) i 20)) d (rN (G 240))) rfl ?_
        refine x_goto (pc := 37) hc dX6_mean_37 45 (by decide) ?_
        refine x_sipush (v := 1000) (pc := 45) hc dX6_mean_45 (by decide) ?_
        refine x_iadd (pc := 48) hc dX6_mean_48 ?_
        exact hret _ _ _ _ dX6_mean_49 ⟨(by unfold qMean; rw [if_neg c6, if_neg c17, if_pos c29, zi, zd]; exact congrArg (fun z => z + 1000) (mean_congr _ _ (fun j hj => lkRow_in _ _ _ hj))), PMq_same hR (gm_same G _)⟩
    · refine x_bipush (v := (-2)) (pc := 20) hc dX6_mean_20 (by decide) ?_
      exact hret _ _ _ _ dX6_mean_22 ⟨(by unfold qMean; rw [if_neg c6, if_pos c17]), PMq_same hR (fun _ _ => rfl)⟩
  · refine x_iconst (v := (-1)) (pc := 9) hc dX6_mean_9 (by decide) ?_
    exact hret _ _ _ _ dX6_mean_10 ⟨(by unfold qMean; rw [if_pos c6]), PMq_same hR (fun _ _ => rfl)⟩
set_option maxHeartbeats 4000000 in
set_option maxRecDepth 100000 in
theorem M_saintOf {w : WT} (hI : xI w) (l : Launch) (G : GS) (x y : Int32) (B : Nat) (hR : MR G) (hV : AV (aOf G) B) : Mi w l yX6_saintOf cX6_saintOf 4 (some .int) ⟨2, 0, 0, 44⟩ [.ref (w.2.2 239), .int x, .int y] G (fun v9 G' => v9 = qSaintOf (aOf G) x y ∧ PMq G G' (aOf G)) := by
  refine mk_i (L0 := [(0, .ref (w.2.2 239)), (1, .int x), (2, .int y)]) hI (by decide +kernel) rfl (Nat.le_of_ble_eq_true rfl) (fun _ _ _ => rfl) (fun K hc hret => ?_)
  have hn : aN (aOf G) ≤ 4 := hV.1
  have h300 : G 240 300 = nI (dN (G 240)) := hV.2.1.1.2
  have hdN : dN (G 240) < 20 := hV.2.1.1.1
  have h303a : G 240 303 = nI (rN (G 240)) := hV.2.1.2.2.1.2
  have hrN : rN (G 240) ≤ 9 := hV.2.1.2.2.1.1
  have hsn : rSn (G 240) (cN (G 240)) := hV.2.1.2.2.2.2.1
  have hcN := hsn.1
  have h302 : G 240 302 = nI (kN (G 240)) := hV.2.1.2.1.2.2
  have hkN : kN (G 240) ≤ 4 := by unfold kN; omega
  refine x_aload_n (pc := 0) hc dX6_saintOf_0 0 rfl ?_
  refine x_iload_n (pc := 1) hc dX6_saintOf_1 1 rfl ?_
  refine x_callVi (pc := 2) hc cl_X6_85 cfR kcX6 [.int x] (m_X6_isSaint hI (kl K) G x (cN (G 240)) hcN hsn.2.1) rfl rfl (by simp [Value.category]) rfl rfl ⟨by decide, by decide⟩ dX6_saintOf_2 (fun r2 Gc2 q2 => ?_)
  obtain ⟨er2, eGc2⟩ := q2
  rw [eGc2]
  subst er2
  refine x_if_ne (pc := 5) hc dX6_saintOf_5 10 (by decide) (fun c5 => ?_) (fun c5 => ?_)
  · obtain ⟨i, hi, rfl⟩ := sB_f hcN c5
    have zi : (nI i).toNatClampNeg = i := nI_clamp (by omega)
    obtain ⟨fe, hfe, hff⟩ := hsn.2.2 i hi
    refine x_iconst (v := 0) (pc := 10) hc dX6_saintOf_10 (by decide) ?_
    refine x_iload_n (pc := 11) hc dX6_saintOf_11 1 rfl ?_
    refine x_callSi (pc := 12) hc cl_X6_37 [.int 0, .int (nI i)] (m_X6_saintAt hI (kl K) G 0 i) rfl rfl (by simp [Value.category]) rfl rfl ⟨by decide, by decide⟩ dX6_saintOf_12 (fun r12 Gc12 q12 => ?_)
    obtain ⟨er12, eGc12⟩ := q12
    rw [eGc12]
    subst er12
    refine x_as (nI (308 + 4 * i)) (congrArg nI (by omega)) ?_
    refine x_istore_n (pc := 15) (L' := [(3, .int (nI (308 + 4 * i))), (0, .ref (w.2.2 239)), (1, .int (nI i)), (2, .int y)]) hc dX6_saintOf_15 (by decide) rfl ?_
    refine x_iload_n (pc := 16) hc dX6_saintOf_16 3 rfl ?_
    by_cases s17_0 : y = 0
    · subst s17_0
      refine x_tableIn (pc := 17) hc dX6_saintOf_17 (by decide) (by decide) rfl 52 (by decide) ?_
      refine x_aload_n (pc := 52) hc dX6_saintOf_52 1 rfl ?_
      refine x_get (pc := 53) hc cfR kcX6 0 (by decide) fl_X6_7 rfl dX6_saintOf_53 ?_
      refine x_iload_n (pc := 56) hc dX6_saintOf_56 0 rfl ?_
      refine x_iload_n (pc := 57) hc dX6_saintOf_57 3 rfl ?_
      refine x_iadd (pc := 58) hc dX6_saintOf_58 ?_
      refine x_as (nI (308 + 4 * i + 0)) (nI_add _ _) ?_
      refine x_iald (pc := 59) hc af0 (vp_in_nI (by omega) (by decide)) dX6_saintOf_59 ?_
      refine x_as (G 240 (308 + 4 * i + 0)) (congrArg _ (nI_clamp (by omega))) ?_
      exact hret _ _ _ _ dX6_saintOf_60 ⟨(by unfold qSaintOf; rw [if_neg c5, if_pos rfl, zi]), PMq_same hR (fun _ _ => rfl)⟩
    by_cases s17_1 : y = 1
    · subst s17_1
      refine x_tableIn (pc := 17) hc dX6_saintOf_17 (by decide) (by decide) rfl 61 (by decide) ?_
      refine x_aload_n (pc := 61) hc dX6_saintOf_61 1 rfl ?_
      refine x_get (pc := 62) hc cfR kcX6 0 (by decide) fl_X6_7 rfl dX6_saintOf_62 ?_
      refine x_iload_n (pc := 65) hc dX6_saintOf_65 0 rfl ?_
      refine x_iload_n (pc := 66) hc dX6_saintOf_66 3 rfl ?_
      refine x_iadd (pc := 67) hc dX6_saintOf_67 ?_
      refine x_as (nI (308 + 4 * i + 1)) (nI_add _ _) ?_
      refine x_iald (pc := 68) hc af0 (vp_in_nI (by omega) (by decide)) dX6_saintOf_68 ?_
      refine x_as (G 240 (308 + 4 * i + 1)) (congrArg _ (nI_clamp (by omega))) ?_
      refine x_sipush (v := 1000) (pc := 69) hc dX6_saintOf_69 (by decide) ?_
      refine x_iadd (pc := 72) hc dX6_saintOf_72 ?_
      exact hret _ _ _ _ dX6_saintOf_73 ⟨(by unfold qSaintOf; rw [if_neg c5, if_neg (by decide), if_pos rfl, zi]), PMq_same hR (fun _ _ => rfl)⟩
    by_cases s17_2 : y = 2
    · subst s17_2
      refine x_tableIn (pc := 17) hc dX6_saintOf_17 (by decide) (by decide) rfl 61 (by decide) ?_
      refine x_aload_n (pc := 61) hc dX6_saintOf_61 1 rfl ?_
      refine x_get (pc := 62) hc cfR kcX6 0 (by decide) fl_X6_7 rfl dX6_saintOf_62 ?_
      refine x_iload_n (pc := 65) hc dX6_saintOf_65 0 rfl ?_
      refine x_iload_n (pc := 66) hc dX6_saintOf_66 3 rfl ?_
      refine x_iadd (pc := 67) hc dX6_saintOf_67 ?_
      refine x_as (nI (308 + 4 * i + 2)) (nI_add _ _) ?_
      refine x_iald (pc := 68) hc af0 (vp_in_nI (by omega) (by decide)) dX6_saintOf_68 ?_
      refine x_as (G 240 (308 + 4 * i + 2)) (congrArg _ (nI_clamp (by omega))) ?_
      refine x_sipush (v := 1000) (pc := 69) hc dX6_saintOf_69 (by decide) ?_
      refine x_iadd (pc := 72) hc dX6_saintOf_72 ?_
      exact hret _ _ _ _ dX6_saintOf_73 ⟨(by unfold qSaintOf; rw [if_neg c5, if_neg (by decide), if_neg (by decide), if_pos rfl, zi]), PMq_same hR (fun _ _ => rfl)⟩
    by_cases s17_3 : y = 3
    · subst s17_3
      refine x_tableIn (pc := 17) hc dX6_saintOf_17 (by decide) (by decide) rfl 52 (by decide) ?_
      refine x_aload_n (pc := 52) hc dX6_saintOf_52 1 rfl ?_
      refine x_get (pc := 53) hc cfR kcX6 0 (by decide) fl_X6_7 rfl dX6_saintOf_53 ?_
      refine x_iload_n (pc := 56) hc dX6_saintOf_56 0 rfl ?_
      refine x_iload_n (pc := 57) hc dX6_saintOf_57 3 rfl ?_
      refine x_iadd (pc := 58) hc dX6_saintOf_58 ?_
      refine x_as (nI (308 + 4 * i + 3)) (nI_add _ _) ?_
      refine x_iald (pc := 59) hc af0 (vp_in_nI (by omega) (by decide)) dX6_saintOf_59 ?_
      refine x_as (G 240 (308 + 4 * i + 3)) (congrArg _ (nI_clamp (by omega))) ?_
      exact hret _ _ _ _ dX6_saintOf_60 ⟨(by unfold qSaintOf; rw [if_neg c5, if_neg (by decide), if_neg (by decide), if_neg (by decide), if_pos rfl, zi]), PMq_same hR (fun _ _ => rfl)⟩
    by_cases s17_4 : y = 4
    · subst s17_4
      refine x_tableIn (pc := 17) hc dX6_saintOf_17 (by decide) (by decide) rfl 74 (by decide) ?_
      refine x_aload_n (pc := 74) hc dX6_saintOf_74 1 rfl ?_
      refine x_iconst (v := 0) (pc := 75) hc dX6_saintOf_75 (by decide) ?_
      refine x_iload_n (pc := 76) hc dX6_saintOf_76 2 rfl ?_
      refine x_callVi (pc := 77) hc cl_X6_40 cfR kcX6 [.int 0, .int (nI i)] (gm_0 G ▸ m_X6_tells hI (kl K) G i fe 0 (G 240) (G 240) (G 244) (by omega) (by omega) hfe hff) rfl rfl (by simp [Value.category]) rfl rfl ⟨by decide, by decide⟩ dX6_saintOf_77 (fun r77 Gc77 q77 => ?_)
      obtain ⟨ev9, eg9⟩ := q77
      subst ev9
      rw [eg9]
      refine x_if_eq (pc := 80) hc dX6_saintOf_80 87 (by decide) (fun c80 => ?_) (fun c80 => ?_)
      · refine x_iconst (v := 0) (pc := 87) hc dX6_saintOf_87 (by decide) ?_
        exact hret _ _ _ _ dX6_saintOf_88 ⟨(by unfold qSaintOf; rw [if_neg c5, if_neg (by decide), if_neg (by decide), if_neg (by decide), if_neg (by decide), if_pos rfl, zi]; exact (c80).symm), PMq_same hR (fun _ _ => rfl)⟩
      · refine x_iconst (v := 1) (pc := 83) hc dX6_saintOf_83 (by decide) ?_
        refine x_goto (pc := 84) hc dX6_saintOf_84 88 (by decide) ?_
        exact hret _ _ _ _ dX6_saintOf_88 ⟨(by unfold qSaintOf; rw [if_neg c5, if_neg (by decide), if_neg (by decide), if_neg (by decide), if_neg (by decide), if_pos rfl, zi]; exact (b01_pos (b01_f c80)).symm), PMq_same hR (fun _ _ => rfl)⟩
    have t17_0 : y.toInt ≠ 0 := fun z => s17_0 (Int32.toInt_inj.mp z)
    have t17_1 : y.toInt ≠ 1 := fun z => s17_1 (Int32.toInt_inj.mp z)
    have t17_2 : y.toInt ≠ 2 := fun z => s17_2 (Int32.toInt_inj.mp z)
    have t17_3 : y.toInt ≠ 3 := fun z => s17_3 (Int32.toInt_inj.mp z)
    have t17_4 : y.toInt ≠ 4 := fun z => s17_4 (Int32.toInt_inj.mp z)
    refine x_tableOut (pc := 17) hc dX6_saintOf_17 (by omega) 89 (by decide) ?_
    refine x_bipush (v := (-2)) (pc := 89) hc dX6_saintOf_89 (by decide) ?_
    exact hret _ _ _ _ dX6_saintOf_91 ⟨(by unfold qSaintOf; rw [if_neg c5, if_neg s17_0, if_neg s17_1, if_neg s17_2, if_neg s17_3, if_neg s17_4]), PMq_same hR (fun _ _ => rfl)⟩
  · refine x_iconst (v := (-1)) (pc := 8) hc dX6_saintOf_8 (by decide) ?_
    exact hret _ _ _ _ dX6_saintOf_9 ⟨(by unfold qSaintOf; rw [if_pos c5]), PMq_same hR (fun _ _ => rfl)⟩
set_option maxHeartbeats 4000000 in
set_option maxRecDepth 100000 in
theorem M_readerOf {w : WT} (hI : xI w) (l : Launch) (G : GS) (x y : Int32) (B : Nat) (hR : MR G) (hV : AV (aOf G) B) : Mi w l yX6_readerOf cX6_readerOf 3 (some .int) ⟨2, 0, 0, 42⟩ [.ref (w.2.2 239), .int x, .int y] G (fun v9 G' => v9 = qReaderOf (aOf G) x y ∧ PMq G G' (aOf G)) := by
  refine mk_i (L0 := [(0, .ref (w.2.2 239)), (1, .int x), (2, .int y)]) hI (by decide +kernel) rfl (Nat.le_of_ble_eq_true rfl) (fun _ _ _ => rfl) (fun K hc hret => ?_)
  have hn : aN (aOf G) ≤ 4 := hV.1
  have h300 : G 240 300 = nI (dN (G 240)) := hV.2.1.1.2
  have hdN : dN (G 240) < 20 := hV.2.1.1.1
  have h303a : G 240 303 = nI (rN (G 240)) := hV.2.1.2.2.1.2
  have hrN : rN (G 240) ≤ 9 := hV.2.1.2.2.1.1
  have hsn : rSn (G 240) (cN (G 240)) := hV.2.1.2.2.2.2.1
  have hcN := hsn.1
  have h302 : G 240 302 = nI (kN (G 240)) := hV.2.1.2.1.2.2
  have hkN : kN (G 240) ≤ 4 := by unfold kN; omega
  refine x_iload_n (pc := 0) hc dX6_readerOf_0 1 rfl ?_
  refine x_callSi (pc := 1) hc cl_X6_91 [.int x] (m_X6_isReader hI (kl K) G x) rfl rfl (by simp [Value.category]) rfl rfl ⟨by decide, by decide⟩ dX6_readerOf_1 (fun r1 Gc1 q1 => ?_)
  obtain ⟨er1, eGc1⟩ := q1
  rw [eGc1]
  subst er1
  refine x_if_ne (pc := 4) hc dX6_readerOf_4 9 (by decide) (fun c4 => ?_) (fun c4 => ?_)
  · obtain ⟨d, hd, rfl⟩ := inB_nat (n := 3) rfl c4
    have zd : (nI d).toNatClampNeg = d := nI_clamp (by omega)
    refine x_iload_n (pc := 9) hc dX6_readerOf_9 2 rfl ?_
    refine x_iconst (v := 0) (pc := 10) hc dX6_readerOf_10 (by decide) ?_
    refine x_iconst (v := 4) (pc := 11) hc dX6_readerOf_11 (by decide) ?_
    refine x_callSi (pc := 12) hc cl_X6_29 [.int y, .int 0, .int 4] (m_X6_in hI (kl K) G y 0 4) rfl rfl (by simp [Value.category]) rfl rfl ⟨by decide, by decide⟩ dX6_readerOf_12 (fun r12 Gc12 q12 => ?_)
    obtain ⟨er12, eGc12⟩ := q12
    rw [eGc12]
    subst er12
    refine x_if_eq (pc := 15) hc dX6_readerOf_15 33 (by decide) (fun c15 => ?_) (fun c15 => ?_)
    · refine x_bipush (v := (-2)) (pc := 33) hc dX6_readerOf_33 (by decide) ?_
      exact hret _ _ _ _ dX6_readerOf_35 ⟨(by unfold qReaderOf; rw [if_neg (c4), if_pos (c15)]), PMq_same hR (fun _ _ => rfl)⟩
    · obtain ⟨e, he, rfl⟩ := inB_nat (n := 4) rfl c15
      have ze : (nI e).toNatClampNeg = e := nI_clamp (by omega)
      refine x_aload_n (pc := 18) hc dX6_readerOf_18 0 rfl ?_
      refine x_get (pc := 19) hc cfR kcX6 0 (by decide) fl_X6_7 rfl dX6_readerOf_19 ?_
      refine x_iconst (v := 0) (pc := 22) hc dX6_readerOf_22 (by decide) ?_
      refine x_iload_n (pc := 23) hc dX6_readerOf_23 1 rfl ?_
      refine x_callSi (pc := 24) hc cl_X6_25 [.int 0, .int (nI d)] (m_X6_reader hI (kl K) G 0 d) rfl rfl (by simp [Value.category]) rfl rfl ⟨by decide, by decide⟩ dX6_readerOf_24 (fun r24 Gc24 q24 => ?_)
      obtain ⟨er24, eGc24⟩ := q24
      rw [eGc24]
      subst er24
      refine x_as (nI (328 + 5 * d)) (congrArg nI (by omega)) ?_
      refine x_iload_n (pc := 27) hc dX6_readerOf_27 2 rfl ?_
      refine x_iadd (pc := 28) hc dX6_readerOf_28 ?_
      refine x_as (nI (328 + 5 * d + e)) (nI_add _ _) ?_
      refine x_iald (pc := 29) hc af0 (vp_in_nI (by omega) (by decide)) dX6_readerOf_29 ?_
      refine x_as (G 240 (328 + 5 * d + e)) (congrArg _ (nI_clamp (by omega))) ?_
      refine x_goto (pc := 30) hc dX6_readerOf_30 35 (by decide) ?_
      exact hret _ _ _ _ dX6_readerOf_35 ⟨(by unfold qReaderOf; rw [if_neg (c4), if_neg (c15), zd, ze]), PMq_same hR (fun _ _ => rfl)⟩
  · refine x_iconst (v := (-1)) (pc := 7) hc dX6_readerOf_7 (by decide) ?_
    exact hret _ _ _ _ dX6_readerOf_8 ⟨(by unfold qReaderOf; rw [if_pos (c4)]), PMq_same hR (fun _ _ => rfl)⟩
