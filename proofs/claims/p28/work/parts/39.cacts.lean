set_option maxHeartbeats 4000000 in
set_option maxRecDepth 100000 in
theorem C_measure {w : WT} (hI : xI w) (l : Launch) (G : GS) (v : Int32) (A : AT) (B : Nat) (hR : RC G A) (hV : AV A B) (hZ : AZ A) (hB : B + 1 < 2 ^ 30) : Mi w l yX5_measure cX5_measure 2 (some .int) ⟨6, 0, 0, 141⟩ [.ref (w.2.2 0), .int v] G (fun v9 G' => v9 = qMeasure A v ∧ PCq G G' (tMeasure A v)) := by
  refine mk_i (L0 := [(0, .ref (w.2.2 0)), (1, .int v)]) hI (by decide +kernel) rfl (Nat.le_of_ble_eq_true rfl) (fun _ _ _ => rfl) (fun K hc hret => ?_)
  obtain ⟨b, eb⟩ : ∃ b, b = stb (G 0 4) := ⟨_, rfl⟩
  obtain ⟨h1, h2, h3, h4, h5, h6, h7, h8⟩ := id hR
  rw [← eb] at h2
  have hb : isB b := by rw [eb]; exact h1.1.2.2.2.2
  have hlb := isB_lt hb
  have hS0 := h2
  obtain ⟨s1, ⟨t4, t5, t6, t7, t8, t9, t10, t11, t12⟩, s3, s4, ⟨y1, y2, y3, y4⟩, so⟩ := h2
  have hRV := hV.2.1
  obtain ⟨⟨d1, d2⟩, ⟨v1, v2, v3⟩, ⟨r1, r2⟩, ho, ⟨c1, c2, c3⟩, hb4⟩ := id hRV
  have hd20 := Nat.le_of_lt d1
  have hn4 := hV.1
  have u4 : G b 4 = nI (cN (aF A)) := t4.trans c2
  have u5 : G b 5 = nI (yN (aF A)) := t5.trans v2
  have u6 : G b 6 = nI (dN (aF A)) := t6.trans d2
  refine x_iload_n (pc := 0) hc dX5_measure_0 1 rfl ?_
  refine x_bipush (v := 40) (pc := 1) hc dX5_measure_1 (by decide) ?_
  refine x_callSi (pc := 3) hc cl_X5_42 [.int v, .int 40] (m_X5_isWithin hI (kl K) G v 40) rfl rfl (by simp [Value.category]) rfl rfl ⟨by decide, by decide⟩ dX5_measure_3 (fun r3 Gc3 q3 => ?_)
  obtain ⟨er3, eGc3⟩ := q3
  rw [eGc3]
  subst er3
  refine x_if_ne (pc := 6) hc dX5_measure_6 12 (by decide) (fun c6 => ?_) (fun c6 => ?_)
  · refine x_aload_n (pc := 12) hc dX5_measure_12 0 rfl ?_
    refine x_callVv (pc := 13) hc cl_X5_46 cfM kcX5 [] (m_X5_remember hI (kl K) G A B hR hV) rfl rfl (by simp [Value.category]) rfl rfl ⟨by decide, by decide⟩ dX5_measure_13 (fun Gc13 q13 => ?_)
    obtain ⟨gR, gU, gn, gN⟩ := q13
    have hg0 : Sim (gv Gc13 b) (aF A) := by
      have q := gR.2.1
      rw [gn, ← eb] at q
      exact q
    refine x_G (gc_0 Gc13 b).symm ?_
    refine x_fn (fun z => GC Gc13 b z) (fun g eg => ?_)
    have hg : Sim g (aF A) := by
      rw [eg]
      exact hg0
    refine x_aload_n (pc := 16) hc dX5_measure_16 0 rfl ?_
    refine x_get (pc := 17) hc cfM kcX5 4 (by decide) fl_X5_31 rfl dX5_measure_17 ?_
    refine x_ar b (by rw [gc_out _ _ _ (by omega), gn, eb]) ?_
    refine x_iload_n (pc := 20) hc dX5_measure_20 1 rfl ?_
    refine x_callVi (pc := 21) hc cl_X5_49 (cfS hb) kcX3 [.int v] (m_X3_passDay hI (kl K) Gc13 b B v (aF A) g hb hg hRV hZ.1 hB) rfl rfl (by simp [Value.category]) rfl rfl ⟨by decide, by decide⟩ dX5_measure_21 (fun r21 Gc21 q21 => ?_)
    obtain ⟨e9, g9, f9, k9⟩ := q21
    subst e9
    rw [f9]
    refine x_sipush (v := 1000) (pc := 24) hc dX5_measure_24 (by decide) ?_
    refine x_iadd (pc := 27) hc dX5_measure_27 ?_
    exact hret _ _ _ _ dX5_measure_28 ⟨(by
        unfold qMeasure
        rw [if_neg (c6)]
        all_goals rfl), (by
        unfold tMeasure
        rw [if_neg (c6)]
        exact PC_put eb gR gn gU hV (RV_meas (by omega) hRV v) k9)⟩
  · refine x_bipush (v := (-2)) (pc := 9) hc dX5_measure_9 (by decide) ?_
    exact hret _ _ _ _ dX5_measure_11 ⟨(by
        unfold qMeasure
        rw [if_pos (c6)]
        all_goals rfl), (by
        unfold tMeasure
        rw [if_pos (c6)]
        exact PC_same hR)⟩
set_option maxHeartbeats 4000000 in
set_option maxRecDepth 100000 in
theorem C_base {w : WT} (hI : xI w) (l : Launch) (G : GS) (x v : Int32) (A : AT) (B : Nat) (hR : RC G A) (hV : AV A B) (hZ : AZ A) (hB : B + 1 < 2 ^ 30) : Mi w l yX5_base cX5_base 4 (some .int) ⟨4, 0, 0, 95⟩ [.ref (w.2.2 0), .int x, .int v] G (fun v9 G' => v9 = qBase A x v ∧ PCq G G' (tBase A x v)) := by
  refine mk_i (L0 := [(0, .ref (w.2.2 0)), (1, .int x), (2, .int v)]) hI (by decide +kernel) rfl (Nat.le_of_ble_eq_true rfl) (fun _ _ _ => rfl) (fun K hc hret => ?_)
  obtain ⟨b, eb⟩ : ∃ b, b = stb (G 0 4) := ⟨_, rfl⟩
  obtain ⟨h1, h2, h3, h4, h5, h6, h7, h8⟩ := id hR
  rw [← eb] at h2
  have hb : isB b := by rw [eb]; exact h1.1.2.2.2.2
  have hlb := isB_lt hb
  have hS0 := h2
  obtain ⟨s1, ⟨t4, t5, t6, t7, t8, t9, t10, t11, t12⟩, s3, s4, ⟨y1, y2, y3, y4⟩, so⟩ := h2
  have hRV := hV.2.1
  obtain ⟨⟨d1, d2⟩, ⟨v1, v2, v3⟩, ⟨r1, r2⟩, ho, ⟨c1, c2, c3⟩, hb4⟩ := id hRV
  have hd20 := Nat.le_of_lt d1
  have hn4 := hV.1
  have u4 : G b 4 = nI (cN (aF A)) := t4.trans c2
  have u5 : G b 5 = nI (yN (aF A)) := t5.trans v2
  have u6 : G b 6 = nI (dN (aF A)) := t6.trans d2
  refine x_iload_n (pc := 0) hc dX5_base_0 1 rfl ?_
  refine x_bipush (v := 20) (pc := 1) hc dX5_base_1 (by decide) ?_
  refine x_callSi (pc := 3) hc cl_X5_76 [.int x, .int 20] (m_X5_isIndex hI (kl K) G x 20) rfl rfl (by simp [Value.category]) rfl rfl ⟨by decide, by decide⟩ dX5_base_3 (fun r3 Gc3 q3 => ?_)
  obtain ⟨er3, eGc3⟩ := q3
  rw [eGc3]
  subst er3
  refine x_as (inB x 0 19) (ix_b _ rfl) ?_
  refine x_if_ne (pc := 6) hc dX5_base_6 11 (by decide) (fun c6 => ?_) (fun c6 => ?_)
  · obtain ⟨d, hd, rfl⟩ := inB_nat (n := 19) rfl c6
    have zd : (nI d).toNatClampNeg = d := nI_clamp (by omega)
    refine x_iload_n (pc := 11) hc dX5_base_11 2 rfl ?_
    refine x_bipush (v := 40) (pc := 12) hc dX5_base_12 (by decide) ?_
    refine x_callSi (pc := 14) hc cl_X5_42 [.int v, .int 40] (m_X5_isWithin hI (kl K) G v 40) rfl rfl (by simp [Value.category]) rfl rfl ⟨by decide, by decide⟩ dX5_base_14 (fun r14 Gc14 q14 => ?_)
    obtain ⟨er14, eGc14⟩ := q14
    rw [eGc14]
    subst er14
    refine x_if_ne (pc := 17) hc dX5_base_17 23 (by decide) (fun c17 => ?_) (fun c17 => ?_)
    · refine x_iload_n (pc := 23) hc dX5_base_23 1 rfl ?_
      refine x_aload_n (pc := 24) hc dX5_base_24 0 rfl ?_
      refine x_get (pc := 25) hc cfM kcX5 4 (by decide) fl_X5_31 rfl dX5_base_25 ?_
      refine x_ar b eb.symm ?_
      refine x_get (pc := 28) hc (cfS hb) kcX3 6 (by decide) fl_X5_79 rfl dX5_base_28 ?_
      refine x_as (aF A 300) t6 ?_
      refine x_icmp_ge (pc := 31) hc dX5_base_31 37 (by decide) (fun c31 => ?_) (fun c31 => ?_)
      · refine x_aload_n (pc := 37) hc dX5_base_37 0 rfl ?_
        refine x_get (pc := 38) hc cfM kcX5 4 (by decide) fl_X5_31 rfl dX5_base_38 ?_
        refine x_ar b eb.symm ?_
        refine x_callVr (pc := 41) hc cl_X5_82 (cfS hb) kcX3 [] (m_X3_yearOfNow hI (kl K) G b ((yN (aF A))) hb (by omega) u5) rfl rfl (by simp [Value.category]) rfl rfl ⟨by decide, by decide⟩ dX5_base_41 (fun r41 Gc41 q41 => ?_)
        obtain ⟨er41, eGc41⟩ := q41
        rw [eGc41]
        subst er41
        refine x_get (pc := 44) hc (cfY (isY_of hb (by omega))) kcX4 0 (by decide) fl_X5_86 rfl dX5_base_44 ?_
        refine x_iload_n (pc := 47) hc dX5_base_47 1 rfl ?_
        refine x_iald (pc := 48) hc (afY (isY_of hb (by omega)) (i := 1) (by decide) (by decide)) (vp_in_nI (by omega) (by decide)) dX5_base_48 ?_
        refine x_as (G (b + (3 + 5 * ((yN (aF A)) % 5)) + 1) d) (congrArg _ (nI_clamp (by omega))) ?_
        refine x_as (aF A d) (y1 d (by omega)) ?_
        refine x_nm (fun x49 ex49 => ?_)
        refine x_istore_n (pc := 49) (L' := [(3, .int x49), (0, .ref (w.2.2 0)), (1, .int (nI d)), (2, .int v)]) hc dX5_base_49 (by decide) rfl ?_
        refine x_iload_n (pc := 50) hc dX5_base_50 0 rfl ?_
        refine x_iload_n (pc := 51) hc dX5_base_51 3 rfl ?_
        refine x_icmp_ne (pc := 52) hc dX5_base_52 58 (by decide) (fun c52 => ?_) (fun c52 => ?_)
        · refine x_aload_n (pc := 58) hc dX5_base_58 1 rfl ?_
          refine x_callVv (pc := 59) hc cl_X5_46 cfM kcX5 [] (m_X5_remember hI (kl K) G A B hR hV) rfl rfl (by simp [Value.category]) rfl rfl ⟨by decide, by decide⟩ dX5_base_59 (fun Gc59 q59 => ?_)
          obtain ⟨gR, gU, gn, gN⟩ := q59
          have hg0 : Sim (gv Gc59 b) (aF A) := by
            have q := gR.2.1
            rw [gn, ← eb] at q
            exact q
          refine x_G (gc_0 Gc59 b).symm ?_
          refine x_fn (fun z => GC Gc59 b z) (fun g eg => ?_)
          have hg : Sim g (aF A) := by
            rw [eg]
            exact hg0
          refine x_aload_n (pc := 62) hc dX5_base_62 1 rfl ?_
          refine x_get (pc := 63) hc cfM kcX5 4 (by decide) fl_X5_31 rfl dX5_base_63 ?_
          refine x_ar b (by rw [gc_out _ _ _ (by omega), gn, eb]) ?_
          refine x_callVr (pc := 66) hc cl_X5_82 (cfS hb) kcX3 [] (m_X3_yearOfNow hI (kl K) (GC Gc59 b g) b ((yN (aF A))) hb (by omega) ((gc_at (c := 0) (by omega) (by omega)).trans (hg.2.1.2.1.trans v2))) rfl rfl (by simp [Value.category]) rfl rfl ⟨by decide, by decide⟩ dX5_base_66 (fun r66 Gc66 q66 => ?_)
          obtain ⟨er66, eGc66⟩ := q66
          rw [eGc66]
          subst er66
          refine x_get (pc := 69) hc (cfY (isY_of hb (by omega))) kcX4 0 (by decide) fl_X5_86 rfl dX5_base_69 ?_
          refine x_iload_n (pc := 72) hc dX5_base_72 2 rfl ?_
          refine x_iload_n (pc := 73) hc dX5_base_73 3 rfl ?_
          refine x_iast (pc := 74) hc (afY (isY_of hb (by omega)) (i := 1) (by decide) (by decide)) (vp_in_nI (by omega) (by decide)) dX5_base_74 ?_
          refine x_G (gc_st (c := (3 + 5 * ((yN (aF A)) % 5)) + 1) (by omega) (by omega) (by omega)) ?_
          refine x_fn (fun z => GC Gc59 b z) (fun g1 eg1 => ?_)
          refine x_iload_n (pc := 75) hc dX5_base_75 0 rfl ?_
          refine x_sipush (v := 1000) (pc := 76) hc dX5_base_76 (by decide) ?_
          refine x_iadd (pc := 79) hc dX5_base_79 ?_
          exact hret _ _ _ _ dX5_base_80 ⟨(by
              subst ex49
              unfold qBase
              rw [if_neg (c6), if_neg (c17), if_neg (Int32.not_lt.mpr c31), zd, if_neg (c52)]
              all_goals rfl), (by
              subst ex49
              unfold tBase
              rw [if_neg (c6), if_neg (c17), if_neg (Int32.not_lt.mpr c31), zd, if_neg (c52)]
              exact (by rw [eg1]; exact PC_put eb gR gn gU hV (RV_keep (by omega) (fun i u v => upd_n _ _ (by omega)) hRV) (Sim_base hg (by omega) hd20)))⟩
        · refine x_bipush (v := (-5)) (pc := 55) hc dX5_base_55 (by decide) ?_
          exact hret _ _ _ _ dX5_base_57 ⟨(by
              subst ex49
              unfold qBase
              rw [if_neg (c6), if_neg (c17), if_neg (Int32.not_lt.mpr c31), zd, if_pos (c52)]
              all_goals rfl), (by
              subst ex49
              unfold tBase
              rw [if_neg (c6), if_neg (c17), if_neg (Int32.not_lt.mpr c31), zd, if_pos (c52)]
              exact PC_same hR)⟩
      · refine x_bipush (v := (-4)) (pc := 34) hc dX5_base_34 (by decide) ?_
        exact hret _ _ _ _ dX5_base_36 ⟨(by
            unfold qBase
            rw [if_neg (c6), if_neg (c17), if_pos (Int32.not_le.mp c31)]
            all_goals rfl), (by
            unfold tBase
            rw [if_neg (c6), if_neg (c17), if_pos (Int32.not_le.mp c31)]
            exact PC_same hR)⟩
    · refine x_bipush (v := (-2)) (pc := 20) hc dX5_base_20 (by decide) ?_
      exact hret _ _ _ _ dX5_base_22 ⟨(by
          unfold qBase
          rw [if_neg (c6), if_pos (c17)]
          all_goals rfl), (by
          unfold tBase
          rw [if_neg (c6), if_pos (c17)]
          exact PC_same hR)⟩
  · refine x_iconst (v := (-1)) (pc := 9) hc dX5_base_9 (by decide) ?_
    exact hret _ _ _ _ dX5_base_10 ⟨(by
        unfold qBase
        rw [if_pos (c6)]
        all_goals rfl), (by
        unfold tBase
        rw [if_pos (c6)]
        exact PC_same hR)⟩
theorem n_nat {n : Int32} (h1 : 1 ≤ n) (h2 : n ≤ 1000) : ∃ x, 1 ≤ x ∧ x ≤ 1000 ∧ n = nI x := by
  rw [Int32.le_iff_toInt_le] at h1 h2
  rw [show (1 : Int32).toInt = 1 from rfl] at h1
  rw [show (1000 : Int32).toInt = 1000 from rfl] at h2
  exact ⟨n.toInt.toNat, by omega, by omega, i32_nat (by omega)⟩
theorem GC_eta {G G' : GS} {b : Nat} (h : ∀ q, q < b ∨ b + 39 ≤ q → G' q = G q) : GC G b (gv G' b) = G' := by
  funext q
  unfold GC gv
  by_cases h1 : b ≤ q ∧ q < b + 39
  · rw [if_pos h1, show b + (q - b) = q by omega]
  · rw [if_neg h1, h q (by omega)]
theorem Sim_strike {g g' : GS} {f : Nat → Int32} {c i : Nat} (hS : Sim g f) (hd20 : dN f ≤ 20) (hc : cN f = c) (hi : i < c) (hc5 : c ≤ 5) (k1 : ∀ m, i ≤ m → m + 1 < c → ∀ j, j < 4 → g' (29 + m) j = g (29 + (m + 1)) j) (k2 : g' 0 = upd (g 0) 4 (nI (c - 1))) (k3 : ∀ q, q < 39 → q ≠ 0 → ¬ (29 + i ≤ q ∧ q + 1 < 29 + c) → g' q = g q) : Sim g' (rStrike f i c) := by
  have hf : ∀ j, j < 307 ∨ 328 ≤ j → rStrike f i c j = f j := fun j hj => by
    unfold rStrike
    rw [stRow_n _ _ _ _ (by omega), upd_n _ _ (by omega)]
  have h307 : rStrike f i c 307 = nI (c - 1) := by
    unfold rStrike
    rw [stRow_n _ _ _ _ (by omega), upd_s]
  have eN : cN (rStrike f i c) = c - 1 := by unfold cN; rw [h307, nI_clamp (by omega)]
  have hS0 := hS
  obtain ⟨s1, ⟨t4, t5, t6, t7, t8, t9, t10, t11, t12⟩, s3, s4, _, _⟩ := hS
  refine Sim_hi hS0 hd20 (fun q hq => hf q (by omega)) (fun q h1 h2 => k3 q (by omega) (by omega) (by omega)) (fun j hj => ?_) ⟨?_, ?_, ?_, ?_, ?_, ?_, ?_, ?_, ?_⟩ (fun m hm j hj => ?_) (fun k hk j hj => ?_)
  · rw [k3 1 (by omega) (by omega) (by omega), hf _ (by omega)]; exact s1 j hj
  · rw [k2, upd_s, h307]
  · rw [k2, upd_n _ _ (by omega), hf _ (by omega), t5]
  · rw [k2, upd_n _ _ (by omega), hf _ (by omega), t6]
  · rw [k2, upd_n _ _ (by omega), hf _ (by omega), t7]
  · rw [k2, upd_n _ _ (by omega), hf _ (by omega), t8]
  · rw [k2, upd_n _ _ (by omega), hf _ (by omega), t9]
  · rw [k2, upd_n _ _ (by omega), hf _ (by omega), t10]
  · rw [k2, upd_n _ _ (by omega), hf _ (by omega), t11]
  · rw [k2, upd_n _ _ (by omega), hf _ (by omega), t12]
  · rw [eN] at hm
    unfold rStrike stRow
    by_cases h : i ≤ m
    · rw [if_pos (by omega), upd_n _ _ (by omega), k1 m h (by omega) j hj, s3 (m + 1) (by omega) j hj, show 308 + 4 * (m + 1) + j = 308 + 4 * m + j + 4 by omega]
    · rw [if_neg (by omega), upd_n _ _ (by omega), k3 _ (by omega) (by omega) (by omega)]
      exact s3 m (by omega) j hj
  · rw [k3 _ (by omega) (by omega) (by omega), hf _ (by omega)]; exact s4 k hk j hj
theorem RV_strike {f : Nat → Int32} {B i c : Nat} (hB : B < 2 ^ 31) (hv : RV f B) (hc : cN f = c) (hi : i < c) : RV (rStrike f i c) B := by
  have hf : ∀ j, j < 307 ∨ 328 ≤ j → rStrike f i c j = f j := fun j hj => by
    unfold rStrike
    have := hv.2.2.2.2.1.1
    rw [stRow_n _ _ _ _ (by omega), upd_n _ _ (by omega)]
  obtain ⟨⟨a1, a2⟩, ⟨b1, b2, b3⟩, ⟨c1, c2⟩, ho, ⟨z1, z2, z3⟩, hb⟩ := hv
  rw [hc] at z1 z2 z3
  refine RV_of (c := c - 1) a1 (by rw [hf 300 (by omega)]; exact a2) b1 hB (by rw [hf 301 (by omega)]; exact b2) (by rw [hf 302 (by omega)]; exact b3) c1 (by rw [hf 303 (by omega)]; exact c2) (by rw [hf 306 (by omega)]; exact ho) ⟨by omega, ?_, fun m hm => ?_⟩ (fun k hk => ?_)
  · unfold rStrike
    rw [stRow_n _ _ _ _ (by omega), upd_s]
  · unfold rStrike stRow
    by_cases h : i ≤ m
    · rw [if_pos (by omega), upd_n _ _ (by omega), show 308 + 4 * m + 4 = 308 + 4 * (m + 1) by omega]
      exact z3 (m + 1) (by omega)
    · rw [if_neg (by omega), upd_n _ _ (by omega)]
      exact z3 m (by omega)
  · rw [hf _ (by omega), hf _ (by omega)]
    exact hb k hk
set_option maxHeartbeats 4000000 in
set_option maxRecDepth 100000 in
theorem C_saint {w : WT} (hI : xI w) (l : Launch) (G : GS) (x c e t : Int32) (A : AT) (B : Nat) (hR : RC G A) (hV : AV A B) (hZ : AZ A) (hB : B + 1 < 2 ^ 30) : Mi w l yX5_saint cX5_saint 6 (some .int) ⟨4, 0, 0, 95⟩ [.ref (w.2.2 0), .int x, .int c, .int e, .int t] G (fun v9 G' => v9 = qSaint A x c e t ∧ PCq G G' (tSaint A x c e t)) := by
  refine mk_i (L0 := [(0, .ref (w.2.2 0)), (1, .int x), (2, .int c), (3, .int e), (4, .int t)]) hI (by decide +kernel) rfl (Nat.le_of_ble_eq_true rfl) (fun _ _ _ => rfl) (fun K hc hret => ?_)
  obtain ⟨b, eb⟩ : ∃ b, b = stb (G 0 4) := ⟨_, rfl⟩
  obtain ⟨h1, h2, h3, h4, h5, h6, h7, h8⟩ := id hR
  rw [← eb] at h2
  have hb : isB b := by rw [eb]; exact h1.1.2.2.2.2
  have hlb := isB_lt hb
  have hS0 := h2
  obtain ⟨s1, ⟨t4, t5, t6, t7, t8, t9, t10, t11, t12⟩, s3, s4, ⟨y1, y2, y3, y4⟩, so⟩ := h2
  have hRV := hV.2.1
  obtain ⟨⟨d1, d2⟩, ⟨v1, v2, v3⟩, ⟨r1, r2⟩, ho, ⟨c1, c2, c3⟩, hb4⟩ := id hRV
  have hd20 := Nat.le_of_lt d1
  have hn4 := hV.1
  have u4 : G b 4 = nI (cN (aF A)) := t4.trans c2
  have u5 : G b 5 = nI (yN (aF A)) := t5.trans v2
  have u6 : G b 6 = nI (dN (aF A)) := t6.trans d2
  refine x_iload_n (pc := 0) hc dX5_saint_0 1 rfl ?_
  refine x_bipush (v := 20) (pc := 1) hc dX5_saint_1 (by decide) ?_
  refine x_callSi (pc := 3) hc cl_X5_76 [.int x, .int 20] (m_X5_isIndex hI (kl K) G x 20) rfl rfl (by simp [Value.category]) rfl rfl ⟨by decide, by decide⟩ dX5_saint_3 (fun r3 Gc3 q3 => ?_)
  obtain ⟨er3, eGc3⟩ := q3
  rw [eGc3]
  subst er3
  refine x_as (inB x 0 19) (ix_b _ rfl) ?_
  refine x_if_ne (pc := 6) hc dX5_saint_6 11 (by decide) (fun c6 => ?_) (fun c6 => ?_)
  · obtain ⟨d, hd, rfl⟩ := inB_nat (n := 19) rfl c6
    have zd : (nI d).toNatClampNeg = d := nI_clamp (by omega)
    refine x_iload_n (pc := 11) hc dX5_saint_11 2 rfl ?_
    refine x_bipush (v := 40) (pc := 12) hc dX5_saint_12 (by decide) ?_
    refine x_callSi (pc := 14) hc cl_X5_42 [.int c, .int 40] (m_X5_isWithin hI (kl K) G c 40) rfl rfl (by simp [Value.category]) rfl rfl ⟨by decide, by decide⟩ dX5_saint_14 (fun r14 Gc14 q14 => ?_)
    obtain ⟨er14, eGc14⟩ := q14
    rw [eGc14]
    subst er14
    refine x_if_eq (pc := 17) hc dX5_saint_17 42 (by decide) (fun c17 => ?_) (fun c17 => ?_)
    · refine x_bipush (v := (-2)) (pc := 42) hc dX5_saint_42 (by decide) ?_
      exact hret _ _ _ _ dX5_saint_44 ⟨(by
          unfold qSaint
          rw [if_neg (c6), if_pos (c17)]
          all_goals rfl), (by
          unfold tSaint
          rw [if_neg (c6), if_pos (c17)]
          exact PC_same hR)⟩
    · refine x_iload_n (pc := 20) hc dX5_saint_20 3 rfl ?_
      refine x_bipush (v := 20) (pc := 21) hc dX5_saint_21 (by decide) ?_
      refine x_callSi (pc := 23) hc cl_X5_42 [.int e, .int 20] (m_X5_isWithin hI (kl K) G e 20) rfl rfl (by simp [Value.category]) rfl rfl ⟨by decide, by decide⟩ dX5_saint_23 (fun r23 Gc23 q23 => ?_)
      obtain ⟨er23, eGc23⟩ := q23
      rw [eGc23]
      subst er23
      refine x_if_eq (pc := 26) hc dX5_saint_26 42 (by decide) (fun c26 => ?_) (fun c26 => ?_)
      · refine x_bipush (v := (-2)) (pc := 42) hc dX5_saint_42 (by decide) ?_
        exact hret _ _ _ _ dX5_saint_44 ⟨(by
            unfold qSaint
            rw [if_neg (c6), if_neg (c17), if_pos (c26)]
            all_goals rfl), (by
            unfold tSaint
            rw [if_neg (c6), if_neg (c17), if_pos (c26)]
            exact PC_same hR)⟩
      · refine x_iload (pc := 29) hc dX5_saint_29 4 rfl ?_
        refine x_iconst (v := 1) (pc := 31) hc dX5_saint_31 (by decide) ?_
        refine x_icmp_lt (pc := 32) hc dX5_saint_32 42 (by decide) (fun c32 => ?_) (fun c32 => ?_)
        · refine x_bipush (v := (-2)) (pc := 42) hc dX5_saint_42 (by decide) ?_
          exact hret _ _ _ _ dX5_saint_44 ⟨(by
              unfold qSaint
              rw [if_neg (c6), if_neg (c17), if_neg (c26), if_pos (show inB t 1 9 = 0 from b01_neg (fun z => absurd z.1 (Int32.not_le.mpr c32)))]
              all_goals rfl), (by
              unfold tSaint
              rw [if_neg (c6), if_neg (c17), if_neg (c26), if_pos (show inB t 1 9 = 0 from b01_neg (fun z => absurd z.1 (Int32.not_le.mpr c32)))]
              exact PC_same hR)⟩
        · refine x_iload (pc := 35) hc dX5_saint_35 4 rfl ?_
          refine x_bipush (v := 9) (pc := 37) hc dX5_saint_37 (by decide) ?_
          refine x_icmp_le (pc := 39) hc dX5_saint_39 45 (by decide) (fun c39 => ?_) (fun c39 => ?_)
          · refine x_aload_n (pc := 45) hc dX5_saint_45 0 rfl ?_
            refine x_get (pc := 46) hc cfM kcX5 4 (by decide) fl_X5_31 rfl dX5_saint_46 ?_
            refine x_ar b eb.symm ?_
            refine x_get (pc := 49) hc (cfS hb) kcX3 4 (by decide) fl_X5_91 rfl dX5_saint_49 ?_
            refine x_as (nI (cN (aF A))) u4 ?_
            refine x_iconst (v := 5) (pc := 52) hc dX5_saint_52 (by decide) ?_
            refine x_icmp_lt (pc := 53) hc dX5_saint_53 59 (by decide) (fun c53 => ?_) (fun c53 => ?_)
            · have c53 : cN (aF A) < 5 := (nI_ltI (a := cN (aF A)) (b := 5) (by omega) (by omega)).mp c53
              refine x_aload_n (pc := 59) hc dX5_saint_59 0 rfl ?_
              refine x_callVv (pc := 60) hc cl_X5_46 cfM kcX5 [] (m_X5_remember hI (kl K) G A B hR hV) rfl rfl (by simp [Value.category]) rfl rfl ⟨by decide, by decide⟩ dX5_saint_60 (fun Gc60 q60 => ?_)
              obtain ⟨gR, gU, gn, gN⟩ := q60
              have hg0 : Sim (gv Gc60 b) (aF A) := by
                have q := gR.2.1
                rw [gn, ← eb] at q
                exact q
              refine x_G (gc_0 Gc60 b).symm ?_
              refine x_fn (fun z => GC Gc60 b z) (fun g eg => ?_)
              have hg : Sim g (aF A) := by
                rw [eg]
                exact hg0
              refine x_aload_n (pc := 63) hc dX5_saint_63 0 rfl ?_
              refine x_get (pc := 64) hc cfM kcX5 4 (by decide) fl_X5_31 rfl dX5_saint_64 ?_
              refine x_ar b (by rw [gc_out _ _ _ (by omega), gn, eb]) ?_
              refine x_get (pc := 67) hc (cfS hb) kcX3 2 (by decide) fl_X5_94 rfl dX5_saint_67 ?_
              refine x_aload_n (pc := 70) hc dX5_saint_70 0 rfl ?_
              refine x_get (pc := 71) hc cfM kcX5 4 (by decide) fl_X5_31 rfl dX5_saint_71 ?_
              refine x_ar b (by rw [gc_out _ _ _ (by omega), gn, eb]) ?_
              refine x_get (pc := 74) hc (cfS hb) kcX3 4 (by decide) fl_X5_91 rfl dX5_saint_74 ?_
              refine x_as (g 0 4) (gc_at (by omega) (by omega)) ?_
              refine x_as (nI (cN (aF A))) (hg.2.1.1.trans c2) ?_
              refine x_aald (pc := 77) hc (rfS hb) rfl (vp_in_nI (by omega) (by decide)) (b + (29 + (cN (aF A)))) (by rw [nI_clamp (by omega)]) dX5_saint_77 ?_
              refine x_astore (pc := 78) (L' := [(5, .ref (w.2.2 (b + (29 + (cN (aF A)))))), (0, .ref (w.2.2 0)), (1, .int (nI d)), (2, .int c), (3, .int e), (4, .int t)]) hc dX5_saint_78 (by decide) rfl ?_
              refine x_aload (pc := 80) hc dX5_saint_80 0 rfl ?_
              refine x_iload_n (pc := 82) hc dX5_saint_82 2 rfl ?_
              refine x_puti (pc := 83) hc (cfN (isN_of hb (by omega))) kcX2 0 (by decide) fl_X5_98 (by decide) rfl (by simp [fX2]) rfl dX5_saint_83 ?_
              refine x_G (gc_up (c := (29 + (cN (aF A)))) (by omega) (by omega)) ?_
              refine x_fn (fun z => GC Gc60 b z) (fun g1 eg1 => ?_)
              refine x_aload (pc := 86) hc dX5_saint_86 0 rfl ?_
              refine x_iload_n (pc := 88) hc dX5_saint_88 3 rfl ?_
              refine x_puti (pc := 89) hc (cfN (isN_of hb (by omega))) kcX2 1 (by decide) fl_X5_103 (by decide) rfl (by simp [fX2]) rfl dX5_saint_89 ?_
              refine x_G (gc_up (c := (29 + (cN (aF A)))) (by omega) (by omega)) ?_
              refine x_fn (fun z => GC Gc60 b z) (fun g2 eg2 => ?_)
              refine x_aload (pc := 92) hc dX5_saint_92 0 rfl ?_
              refine x_iload_n (pc := 94) hc dX5_saint_94 4 rfl ?_
              refine x_puti (pc := 95) hc (cfN (isN_of hb (by omega))) kcX2 2 (by decide) fl_X5_106 (by decide) rfl (by simp [fX2]) rfl dX5_saint_95 ?_
              refine x_G (gc_up (c := (29 + (cN (aF A)))) (by omega) (by omega)) ?_
              refine x_fn (fun z => GC Gc60 b z) (fun g3 eg3 => ?_)
              refine x_aload (pc := 98) hc dX5_saint_98 0 rfl ?_
              refine x_iload (pc := 100) hc dX5_saint_100 5 rfl ?_
              refine x_puti (pc := 102) hc (cfN (isN_of hb (by omega))) kcX2 3 (by decide) fl_X5_109 (by decide) rfl (by simp [fX2]) rfl dX5_saint_102 ?_
              refine x_G (gc_up (c := (29 + (cN (aF A)))) (by omega) (by omega)) ?_
              refine x_fn (fun z => GC Gc60 b z) (fun g4 eg4 => ?_)
              refine x_aload_n (pc := 105) hc dX5_saint_105 1 rfl ?_
              refine x_get (pc := 106) hc cfM kcX5 4 (by decide) fl_X5_31 rfl dX5_saint_106 ?_
              refine x_ar b (by rw [gc_out _ _ _ (by omega), gn, eb]) ?_
              refine x_dupr (pc := 109) hc dX5_saint_109 ?_
              refine x_get (pc := 110) hc (cfS hb) kcX3 4 (by decide) fl_X5_91 rfl dX5_saint_110 ?_
              refine x_as (g4 0 4) (gc_at (by omega) (by omega)) ?_
              refine x_as (nI (cN (aF A))) (by rw [eg4, up2_k _ _ _ _ (by omega), eg3, up2_k _ _ _ _ (by omega), eg2, up2_k _ _ _ _ (by omega), eg1, up2_k _ _ _ _ (by omega)]; exact hg.2.1.1.trans c2) ?_
              refine x_iconst (v := 1) (pc := 113) hc dX5_saint_113 (by decide) ?_
              refine x_iadd (pc := 114) hc dX5_saint_114 ?_
              refine x_as (nI (cN (aF A) + 1)) (nI_add _ _) ?_
              refine x_puti (pc := 115) hc (cfS hb) kcX3 4 (by decide) fl_X5_91 (by decide) rfl (by simp [fX3]) rfl dX5_saint_115 ?_
              refine x_G (gc_up (c := 0) (by omega) (by omega)) ?_
              refine x_fn (fun z => GC Gc60 b z) (fun g5 eg5 => ?_)
              refine x_aload_n (pc := 118) hc dX5_saint_118 1 rfl ?_
              refine x_get (pc := 119) hc cfM kcX5 4 (by decide) fl_X5_31 rfl dX5_saint_119 ?_
              refine x_ar b (by rw [gc_out _ _ _ (by omega), gn, eb]) ?_
              refine x_get (pc := 122) hc (cfS hb) kcX3 4 (by decide) fl_X5_91 rfl dX5_saint_122 ?_
              refine x_as (g5 0 4) (gc_at (by omega) (by omega)) ?_
              refine x_as (nI (cN (aF A) + 1)) (by rw [eg5, up2_s]) ?_
              refine x_iconst (v := 1) (pc := 125) hc dX5_saint_125 (by decide) ?_
              refine x_isub (pc := 126) hc dX5_saint_126 ?_
              refine x_as (nI (cN (aF A))) (nI_pred _) ?_
              exact hret _ _ _ _ dX5_saint_127 ⟨(by
                  unfold qSaint
                  rw [if_neg (c6), if_neg (c17), if_neg (c26), if_neg (by rw [show inB t 1 9 = 1 from b01_pos ⟨Int32.not_lt.mp c32, c39⟩]; decide), if_neg (by omega)]
                  all_goals rfl), (by
                  unfold tSaint
                  rw [if_neg (c6), if_neg (c17), if_neg (c26), if_neg (by rw [show inB t 1 9 = 1 from b01_pos ⟨Int32.not_lt.mp c32, c39⟩]; decide), if_neg (by omega)]
                  exact PC_put eb gR gn gU hV (RV_saint (by omega) hRV (by omega) (by omega)) (Sim_saint hg hd20 (by omega) rfl eg1 eg2 eg3 eg4 eg5))⟩
            · have c53 : ¬ cN (aF A) < 5 := fun h9 => c53 ((nI_ltI (a := cN (aF A)) (b := 5) (by omega) (by omega)).mpr h9)
              refine x_bipush (v := (-3)) (pc := 56) hc dX5_saint_56 (by decide) ?_
              exact hret _ _ _ _ dX5_saint_58 ⟨(by
                  unfold qSaint
                  rw [if_neg (c6), if_neg (c17), if_neg (c26), if_neg (by rw [show inB t 1 9 = 1 from b01_pos ⟨Int32.not_lt.mp c32, c39⟩]; decide), if_pos (by omega)]
                  all_goals rfl), (by
                  unfold tSaint
                  rw [if_neg (c6), if_neg (c17), if_neg (c26), if_neg (by rw [show inB t 1 9 = 1 from b01_pos ⟨Int32.not_lt.mp c32, c39⟩]; decide), if_pos (by omega)]
                  exact PC_same hR)⟩
          · refine x_bipush (v := (-2)) (pc := 42) hc dX5_saint_42 (by decide) ?_
            exact hret _ _ _ _ dX5_saint_44 ⟨(by
                unfold qSaint
                rw [if_neg (c6), if_neg (c17), if_neg (c26), if_pos (show inB t 1 9 = 0 from b01_neg (fun z => c39 z.2))]
                all_goals rfl), (by
                unfold tSaint
                rw [if_neg (c6), if_neg (c17), if_neg (c26), if_pos (show inB t 1 9 = 0 from b01_neg (fun z => c39 z.2))]
                exact PC_same hR)⟩
  · refine x_iconst (v := (-1)) (pc := 9) hc dX5_saint_9 (by decide) ?_
    exact hret _ _ _ _ dX5_saint_10 ⟨(by
        unfold qSaint
        rw [if_pos (c6)]
        all_goals rfl), (by
        unfold tSaint
        rw [if_pos (c6)]
        exact PC_same hR)⟩
set_option maxHeartbeats 4000000 in
set_option maxRecDepth 100000 in
theorem C_strike {w : WT} (hI : xI w) (l : Launch) (G : GS) (x : Int32) (A : AT) (B : Nat) (hR : RC G A) (hV : AV A B) (hZ : AZ A) (hB : B + 1 < 2 ^ 30) : Mi w l yX5_strike cX5_strike 2 (some .int) ⟨4, 0, 0, 95⟩ [.ref (w.2.2 0), .int x] G (fun v9 G' => v9 = qStrike A x ∧ PCq G G' (tStrike A x)) := by
  refine mk_i (L0 := [(0, .ref (w.2.2 0)), (1, .int x)]) hI (by decide +kernel) rfl (Nat.le_of_ble_eq_true rfl) (fun _ _ _ => rfl) (fun K hc hret => ?_)
  obtain ⟨b, eb⟩ : ∃ b, b = stb (G 0 4) := ⟨_, rfl⟩
  obtain ⟨h1, h2, h3, h4, h5, h6, h7, h8⟩ := id hR
  rw [← eb] at h2
  have hb : isB b := by rw [eb]; exact h1.1.2.2.2.2
  have hlb := isB_lt hb
  have hS0 := h2
  obtain ⟨s1, ⟨t4, t5, t6, t7, t8, t9, t10, t11, t12⟩, s3, s4, ⟨y1, y2, y3, y4⟩, so⟩ := h2
  have hRV := hV.2.1
  obtain ⟨⟨d1, d2⟩, ⟨v1, v2, v3⟩, ⟨r1, r2⟩, ho, ⟨c1, c2, c3⟩, hb4⟩ := id hRV
  have hd20 := Nat.le_of_lt d1
  have hn4 := hV.1
  have u4 : G b 4 = nI (cN (aF A)) := t4.trans c2
  have u5 : G b 5 = nI (yN (aF A)) := t5.trans v2
  have u6 : G b 6 = nI (dN (aF A)) := t6.trans d2
  refine x_iload_n (pc := 0) hc dX5_strike_0 1 rfl ?_
  refine x_aload_n (pc := 1) hc dX5_strike_1 0 rfl ?_
  refine x_get (pc := 2) hc cfM kcX5 4 (by decide) fl_X5_31 rfl dX5_strike_2 ?_
  refine x_ar b eb.symm ?_
  refine x_get (pc := 5) hc (cfS hb) kcX3 4 (by decide) fl_X5_91 rfl dX5_strike_5 ?_
  refine x_as (nI (cN (aF A))) u4 ?_
  refine x_callSi (pc := 8) hc cl_X5_76 [.int x, .int (nI (cN (aF A)))] (m_X5_isIndex hI (kl K) G x (nI (cN (aF A)))) rfl rfl (by simp [Value.category]) rfl rfl ⟨by decide, by decide⟩ dX5_strike_8 (fun r8 Gc8 q8 => ?_)
  obtain ⟨er8, eGc8⟩ := q8
  rw [eGc8]
  subst er8
  refine x_as (sB x (cN (aF A))) (ix_c _ (by omega)) ?_
  refine x_if_ne (pc := 11) hc dX5_strike_11 16 (by decide) (fun c11 => ?_) (fun c11 => ?_)
  · obtain ⟨i, hi, rfl⟩ := sB_f c1 c11
    have zi : (nI i).toNatClampNeg = i := nI_clamp (by omega)
    refine x_aload_n (pc := 16) hc dX5_strike_16 0 rfl ?_
    refine x_callVv (pc := 17) hc cl_X5_46 cfM kcX5 [] (m_X5_remember hI (kl K) G A B hR hV) rfl rfl (by simp [Value.category]) rfl rfl ⟨by decide, by decide⟩ dX5_strike_17 (fun Gc17 q17 => ?_)
    obtain ⟨gR, gU, gn, gN⟩ := q17
    have hg0 : Sim (gv Gc17 b) (aF A) := by
      have q := gR.2.1
      rw [gn, ← eb] at q
      exact q
    refine x_aload_n (pc := 20) hc dX5_strike_20 0 rfl ?_
    refine x_get (pc := 21) hc cfM kcX5 4 (by decide) fl_X5_31 rfl dX5_strike_21 ?_
    refine x_ar b (by rw [gn, eb]) ?_
    refine x_iload_n (pc := 24) hc dX5_strike_24 1 rfl ?_
    refine x_callVv (pc := 25) hc cl_X5_112 (cfS hb) kcX3 [.int (nI i)] (m_X3_removeSaint hI (kl K) Gc17 b i (cN (aF A)) hb (hg0.2.1.1.trans c2) c1 hi) rfl rfl (by simp [Value.category]) rfl rfl ⟨by decide, by decide⟩ dX5_strike_25 (fun Gc25 q25 => ?_)
    obtain ⟨p1, p2, p3⟩ := q25
    refine x_aload_n (pc := 28) hc dX5_strike_28 0 rfl ?_
    refine x_get (pc := 29) hc cfM kcX5 4 (by decide) fl_X5_31 rfl dX5_strike_29 ?_
    refine x_ar b (by rw [p3 0 (by omega) (by omega), gn, eb]) ?_
    refine x_get (pc := 32) hc (cfS hb) kcX3 4 (by decide) fl_X5_91 rfl dX5_strike_32 ?_
    refine x_as (nI (cN (aF A) - 1)) (by rw [p2, upd_s]) ?_
    exact hret _ _ _ _ dX5_strike_35 ⟨(by
        unfold qStrike
        rw [if_neg (c11)]
        all_goals rfl), (by
        unfold tStrike
        rw [if_neg (c11), zi]
        exact (by rw [← GC_eta (G := Gc17) (b := b) (fun z hz => p3 z (by omega) (by omega))]; exact PC_put eb gR gn gU hV (RV_strike (by omega) hRV rfl hi) (Sim_strike hg0 hd20 rfl hi c1 p1 p2 (fun z _ h1 h2 => p3 (b + z) (by omega) (by omega)))))⟩
  · refine x_iconst (v := (-1)) (pc := 14) hc dX5_strike_14 (by decide) ?_
    exact hret _ _ _ _ dX5_strike_15 ⟨(by
        unfold qStrike
        rw [if_pos (c11)]
        all_goals rfl), (by
        unfold tStrike
        rw [if_pos (c11)]
        exact PC_same hR)⟩
set_option maxHeartbeats 4000000 in
set_option maxRecDepth 100000 in
theorem C_bet {w : WT} (hI : xI w) (l : Launch) (G : GS) (x z n : Int32) (A : AT) (B : Nat) (hR : RC G A) (hV : AV A B) (hZ : AZ A) (hB : B + 1 < 2 ^ 30) (hz : z = 0 ∨ z = 1) : Mi w l yX5_bet cX5_bet 5 (some .int) ⟨4, 0, 0, 95⟩ [.ref (w.2.2 0), .int x, .int z, .int n] G (fun v9 G' => v9 = qBet A x z n ∧ PCq G G' (tBet A x z n)) := by
  refine mk_i (L0 := [(0, .ref (w.2.2 0)), (1, .int x), (2, .int z), (3, .int n)]) hI (by decide +kernel) rfl (Nat.le_of_ble_eq_true rfl) (fun _ _ _ => rfl) (fun K hc hret => ?_)
  obtain ⟨b, eb⟩ : ∃ b, b = stb (G 0 4) := ⟨_, rfl⟩
  obtain ⟨h1, h2, h3, h4, h5, h6, h7, h8⟩ := id hR
  rw [← eb] at h2
  have hb : isB b := by rw [eb]; exact h1.1.2.2.2.2
  have hlb := isB_lt hb
  have hS0 := h2
  obtain ⟨s1, ⟨t4, t5, t6, t7, t8, t9, t10, t11, t12⟩, s3, s4, ⟨y1, y2, y3, y4⟩, so⟩ := h2
  have hRV := hV.2.1
  obtain ⟨⟨d1, d2⟩, ⟨v1, v2, v3⟩, ⟨r1, r2⟩, ho, ⟨c1, c2, c3⟩, hb4⟩ := id hRV
  have hd20 := Nat.le_of_lt d1
  have hn4 := hV.1
  have u4 : G b 4 = nI (cN (aF A)) := t4.trans c2
  have u5 : G b 5 = nI (yN (aF A)) := t5.trans v2
  have u6 : G b 6 = nI (dN (aF A)) := t6.trans d2
  refine x_iload_n (pc := 0) hc dX5_bet_0 1 rfl ?_
  refine x_iconst (v := 4) (pc := 1) hc dX5_bet_1 (by decide) ?_
  refine x_callSi (pc := 2) hc cl_X5_76 [.int x, .int 4] (m_X5_isIndex hI (kl K) G x 4) rfl rfl (by simp [Value.category]) rfl rfl ⟨by decide, by decide⟩ dX5_bet_2 (fun r2 Gc2 q2 => ?_)
  obtain ⟨er2, eGc2⟩ := q2
  rw [eGc2]
  subst er2
  refine x_as (inB x 0 3) (ix_b _ rfl) ?_
  refine x_if_ne (pc := 5) hc dX5_bet_5 10 (by decide) (fun c5 => ?_) (fun c5 => ?_)
  · obtain ⟨k, hk, rfl⟩ := inB_nat (n := 3) rfl c5
    have zk : (nI k).toNatClampNeg = k := nI_clamp (by omega)
    refine x_iload_n (pc := 10) hc dX5_bet_10 3 rfl ?_
    refine x_iconst (v := 1) (pc := 11) hc dX5_bet_11 (by decide) ?_
    refine x_icmp_lt (pc := 12) hc dX5_bet_12 22 (by decide) (fun c12 => ?_) (fun c12 => ?_)
    · refine x_bipush (v := (-2)) (pc := 22) hc dX5_bet_22 (by decide) ?_
      exact hret _ _ _ _ dX5_bet_24 ⟨(by
          unfold qBet
          rw [if_neg (c5), if_pos (show inB n 1 1000 = 0 from b01_neg (fun z => absurd z.1 (Int32.not_le.mpr c12)))]
          all_goals rfl), (by
          unfold tBet
          rw [if_neg (c5), if_pos (show inB n 1 1000 = 0 from b01_neg (fun z => absurd z.1 (Int32.not_le.mpr c12)))]
          exact PC_same hR)⟩
    · refine x_iload_n (pc := 15) hc dX5_bet_15 3 rfl ?_
      refine x_sipush (v := 1000) (pc := 16) hc dX5_bet_16 (by decide) ?_
      refine x_icmp_le (pc := 19) hc dX5_bet_19 25 (by decide) (fun c19 => ?_) (fun c19 => ?_)
      · refine x_aload_n (pc := 25) hc dX5_bet_25 0 rfl ?_
        refine x_get (pc := 26) hc cfM kcX5 4 (by decide) fl_X5_31 rfl dX5_bet_26 ?_
        refine x_ar b eb.symm ?_
        refine x_get (pc := 29) hc (cfS hb) kcX3 3 (by decide) fl_X5_125 rfl dX5_bet_29 ?_
        refine x_iload_n (pc := 32) hc dX5_bet_32 1 rfl ?_
        refine x_aald (pc := 33) hc (rfR hb) rfl (vp_in_nI (by omega) (by decide)) (b + (35 + k)) (by rw [nI_clamp (by omega)]) dX5_bet_33 ?_
        refine x_get (pc := 34) hc (cfD (isR_of hb (by omega))) kcX1 1 (by decide) fl_X5_129 rfl dX5_bet_34 ?_
        refine x_as (aF A (328 + 5 * k + 1)) (s4 k (by omega) 1 (by omega)) ?_
        refine x_if_gt (pc := 37) hc dX5_bet_37 56 (by decide) (fun c37 => ?_) (fun c37 => ?_)
        · refine x_bipush (v := (-4)) (pc := 56) hc dX5_bet_56 (by decide) ?_
          exact hret _ _ _ _ dX5_bet_58 ⟨(by
              unfold qBet
              rw [if_neg (c5), if_neg (by rw [show inB n 1 1000 = 1 from b01_pos ⟨Int32.not_lt.mp c12, c19⟩]; decide), zk, if_pos (c37)]
              all_goals rfl), (by
              unfold tBet
              rw [if_neg (c5), if_neg (by rw [show inB n 1 1000 = 1 from b01_pos ⟨Int32.not_lt.mp c12, c19⟩]; decide), zk, if_pos (c37)]
              exact PC_same hR)⟩
        · refine x_aload_n (pc := 40) hc dX5_bet_40 0 rfl ?_
          refine x_get (pc := 41) hc cfM kcX5 4 (by decide) fl_X5_31 rfl dX5_bet_41 ?_
          refine x_ar b eb.symm ?_
          refine x_get (pc := 44) hc (cfS hb) kcX3 3 (by decide) fl_X5_125 rfl dX5_bet_44 ?_
          refine x_iload_n (pc := 47) hc dX5_bet_47 1 rfl ?_
          refine x_aald (pc := 48) hc (rfR hb) rfl (vp_in_nI (by omega) (by decide)) (b + (35 + k)) (by rw [nI_clamp (by omega)]) dX5_bet_48 ?_
          refine x_get (pc := 49) hc (cfD (isR_of hb (by omega))) kcX1 0 (by decide) fl_X5_134 rfl dX5_bet_49 ?_
          refine x_as (aF A (328 + 5 * k + 0)) (s4 k (by omega) 0 (by omega)) ?_
          refine x_iload_n (pc := 52) hc dX5_bet_52 3 rfl ?_
          refine x_icmp_ge (pc := 53) hc dX5_bet_53 59 (by decide) (fun c53 => ?_) (fun c53 => ?_)
          · refine x_aload_n (pc := 59) hc dX5_bet_59 0 rfl ?_
            refine x_callVv (pc := 60) hc cl_X5_46 cfM kcX5 [] (m_X5_remember hI (kl K) G A B hR hV) rfl rfl (by simp [Value.category]) rfl rfl ⟨by decide, by decide⟩ dX5_bet_60 (fun Gc60 q60 => ?_)
            obtain ⟨gR, gU, gn, gN⟩ := q60
            have hg0 : Sim (gv Gc60 b) (aF A) := by
              have q := gR.2.1
              rw [gn, ← eb] at q
              exact q
            refine x_G (gc_0 Gc60 b).symm ?_
            refine x_fn (fun z => GC Gc60 b z) (fun g eg => ?_)
            have hg : Sim g (aF A) := by
              rw [eg]
              exact hg0
            refine x_aload_n (pc := 63) hc dX5_bet_63 0 rfl ?_
            refine x_get (pc := 64) hc cfM kcX5 4 (by decide) fl_X5_31 rfl dX5_bet_64 ?_
            refine x_ar b (by rw [gc_out _ _ _ (by omega), gn, eb]) ?_
            refine x_get (pc := 67) hc (cfS hb) kcX3 3 (by decide) fl_X5_125 rfl dX5_bet_67 ?_
            refine x_iload_n (pc := 70) hc dX5_bet_70 1 rfl ?_
            refine x_aald (pc := 71) hc (rfR hb) rfl (vp_in_nI (by omega) (by decide)) (b + (35 + k)) (by rw [nI_clamp (by omega)]) dX5_bet_71 ?_
            refine x_astore (pc := 72) (L' := [(4, .ref (w.2.2 (b + (35 + k)))), (0, .ref (w.2.2 0)), (1, .int (nI k)), (2, .int z), (3, .int n)]) hc dX5_bet_72 (by decide) rfl ?_
            refine x_aload (pc := 74) hc dX5_bet_74 0 rfl ?_
            refine x_dupr (pc := 76) hc dX5_bet_76 ?_
            refine x_get (pc := 77) hc (cfD (isR_of hb (by omega))) kcX1 0 (by decide) fl_X5_134 rfl dX5_bet_77 ?_
            refine x_as (g (35 + k) 0) (gc_at (by omega) (by omega)) ?_
            refine x_iload_n (pc := 80) hc dX5_bet_80 4 rfl ?_
            refine x_isub (pc := 81) hc dX5_bet_81 ?_
            refine x_puti (pc := 82) hc (cfD (isR_of hb (by omega))) kcX1 0 (by decide) fl_X5_134 (by decide) rfl (by simp [fX1]) rfl dX5_bet_82 ?_
            refine x_G (gc_up (c := 35 + k) (by omega) (by omega)) ?_
            refine x_fn (fun z => GC Gc60 b z) (fun g1 eg1 => ?_)
            refine x_aload (pc := 85) hc dX5_bet_85 0 rfl ?_
            refine x_iload_n (pc := 87) hc dX5_bet_87 4 rfl ?_
            refine x_puti (pc := 88) hc (cfD (isR_of hb (by omega))) kcX1 1 (by decide) fl_X5_129 (by decide) rfl (by simp [fX1]) rfl dX5_bet_88 ?_
            refine x_G (gc_up (c := 35 + k) (by omega) (by omega)) ?_
            refine x_fn (fun z => GC Gc60 b z) (fun g2 eg2 => ?_)
            refine x_aload (pc := 91) hc dX5_bet_91 0 rfl ?_
            refine x_iload_n (pc := 93) hc dX5_bet_93 3 rfl ?_
            refine x_put (pc := 94) hc (cfD (isR_of hb (by omega))) kcX1 2 (by decide) fl_X5_137 (by decide) z rfl (by simp [fX1]) (nz_b hz) (ft_b hz) dX5_bet_94 ?_
            refine x_G (gc_up (c := 35 + k) (by omega) (by omega)) ?_
            refine x_fn (fun z => GC Gc60 b z) (fun g3 eg3 => ?_)
            refine x_aload (pc := 97) hc dX5_bet_97 0 rfl ?_
            refine x_get (pc := 99) hc (cfD (isR_of hb (by omega))) kcX1 0 (by decide) fl_X5_134 rfl dX5_bet_99 ?_
            refine x_as (g3 (35 + k) 0) (gc_at (by omega) (by omega)) ?_
            refine x_as (aF A (328 + 5 * k + 0) - n) (by rw [eg3, up2_i _ _ _ _ (by omega), eg2, up2_i _ _ _ _ (by omega), eg1, up2_s, hg.2.2.2.1 k (by omega) 0 (by omega)]) ?_
            exact hret _ _ _ _ dX5_bet_102 ⟨(by
                unfold qBet
                rw [if_neg (c5), if_neg (by rw [show inB n 1 1000 = 1 from b01_pos ⟨Int32.not_lt.mp c12, c19⟩]; decide), zk, if_neg (c37), if_neg (Int32.not_lt.mpr c53)]
                all_goals rfl), (by
                unfold tBet
                rw [if_neg (c5), if_neg (by rw [show inB n 1 1000 = 1 from b01_pos ⟨Int32.not_lt.mp c12, c19⟩]; decide), zk, if_neg (c37), if_neg (Int32.not_lt.mpr c53)]
                exact (by
                  obtain ⟨x9, _, hx9, hen⟩ := n_nat (Int32.not_lt.mp c12) c19
                  subst hen
                  exact PC_put eb gR gn gU hV (RV_bet (by omega) hRV (by omega) hx9 hz) (Sim_bet hg hd20 c1 (by omega) eg1 eg2 eg3)))⟩
          · refine x_bipush (v := (-4)) (pc := 56) hc dX5_bet_56 (by decide) ?_
            exact hret _ _ _ _ dX5_bet_58 ⟨(by
                unfold qBet
                rw [if_neg (c5), if_neg (by rw [show inB n 1 1000 = 1 from b01_pos ⟨Int32.not_lt.mp c12, c19⟩]; decide), zk, if_neg (c37), if_pos (Int32.not_le.mp c53)]
                all_goals rfl), (by
                unfold tBet
                rw [if_neg (c5), if_neg (by rw [show inB n 1 1000 = 1 from b01_pos ⟨Int32.not_lt.mp c12, c19⟩]; decide), zk, if_neg (c37), if_pos (Int32.not_le.mp c53)]
                exact PC_same hR)⟩
      · refine x_bipush (v := (-2)) (pc := 22) hc dX5_bet_22 (by decide) ?_
        exact hret _ _ _ _ dX5_bet_24 ⟨(by
            unfold qBet
            rw [if_neg (c5), if_pos (show inB n 1 1000 = 0 from b01_neg (fun z => c19 z.2))]
            all_goals rfl), (by
            unfold tBet
            rw [if_neg (c5), if_pos (show inB n 1 1000 = 0 from b01_neg (fun z => c19 z.2))]
            exact PC_same hR)⟩
  · refine x_iconst (v := (-1)) (pc := 8) hc dX5_bet_8 (by decide) ?_
    exact hret _ _ _ _ dX5_bet_9 ⟨(by
        unfold qBet
        rw [if_pos (c5)]
        all_goals rfl), (by
        unfold tBet
        rw [if_pos (c5)]
        exact PC_same hR)⟩
set_option maxHeartbeats 4000000 in
set_option maxRecDepth 100000 in
theorem C_takeBack {w : WT} (hI : xI w) (l : Launch) (G : GS) (x : Int32) (A : AT) (B : Nat) (hR : RC G A) (hV : AV A B) (hZ : AZ A) (hB : B + 1 < 2 ^ 30) : Mi w l yX5_takeBack cX5_takeBack 3 (some .int) ⟨4, 0, 0, 95⟩ [.ref (w.2.2 0), .int x] G (fun v9 G' => v9 = qTake A x ∧ PCq G G' (tTake A x)) := by
  refine mk_i (L0 := [(0, .ref (w.2.2 0)), (1, .int x)]) hI (by decide +kernel) rfl (Nat.le_of_ble_eq_true rfl) (fun _ _ _ => rfl) (fun K hc hret => ?_)
  obtain ⟨b, eb⟩ : ∃ b, b = stb (G 0 4) := ⟨_, rfl⟩
  obtain ⟨h1, h2, h3, h4, h5, h6, h7, h8⟩ := id hR
  rw [← eb] at h2
  have hb : isB b := by rw [eb]; exact h1.1.2.2.2.2
  have hlb := isB_lt hb
  have hS0 := h2
  obtain ⟨s1, ⟨t4, t5, t6, t7, t8, t9, t10, t11, t12⟩, s3, s4, ⟨y1, y2, y3, y4⟩, so⟩ := h2
  have hRV := hV.2.1
  obtain ⟨⟨d1, d2⟩, ⟨v1, v2, v3⟩, ⟨r1, r2⟩, ho, ⟨c1, c2, c3⟩, hb4⟩ := id hRV
  have hd20 := Nat.le_of_lt d1
  have hn4 := hV.1
  have u4 : G b 4 = nI (cN (aF A)) := t4.trans c2
  have u5 : G b 5 = nI (yN (aF A)) := t5.trans v2
  have u6 : G b 6 = nI (dN (aF A)) := t6.trans d2
  refine x_iload_n (pc := 0) hc dX5_takeBack_0 1 rfl ?_
  refine x_iconst (v := 4) (pc := 1) hc dX5_takeBack_1 (by decide) ?_
  refine x_callSi (pc := 2) hc cl_X5_76 [.int x, .int 4] (m_X5_isIndex hI (kl K) G x 4) rfl rfl (by simp [Value.category]) rfl rfl ⟨by decide, by decide⟩ dX5_takeBack_2 (fun r2 Gc2 q2 => ?_)
  obtain ⟨er2, eGc2⟩ := q2
  rw [eGc2]
  subst er2
  refine x_as (inB x 0 3) (ix_b _ rfl) ?_
  refine x_if_ne (pc := 5) hc dX5_takeBack_5 10 (by decide) (fun c5 => ?_) (fun c5 => ?_)
  · obtain ⟨k, hk, rfl⟩ := inB_nat (n := 3) rfl c5
    have zk : (nI k).toNatClampNeg = k := nI_clamp (by omega)
    refine x_aload_n (pc := 10) hc dX5_takeBack_10 0 rfl ?_
    refine x_get (pc := 11) hc cfM kcX5 4 (by decide) fl_X5_31 rfl dX5_takeBack_11 ?_
    refine x_ar b eb.symm ?_
    refine x_get (pc := 14) hc (cfS hb) kcX3 3 (by decide) fl_X5_125 rfl dX5_takeBack_14 ?_
    refine x_iload_n (pc := 17) hc dX5_takeBack_17 1 rfl ?_
    refine x_aald (pc := 18) hc (rfR hb) rfl (vp_in_nI (by omega) (by decide)) (b + (35 + k)) (by rw [nI_clamp (by omega)]) dX5_takeBack_18 ?_
    refine x_get (pc := 19) hc (cfD (isR_of hb (by omega))) kcX1 1 (by decide) fl_X5_129 rfl dX5_takeBack_19 ?_
    refine x_as (aF A (328 + 5 * k + 1)) (s4 k (by omega) 1 (by omega)) ?_
    refine x_if_ne (pc := 22) hc dX5_takeBack_22 28 (by decide) (fun c22 => ?_) (fun c22 => ?_)
    · refine x_aload_n (pc := 28) hc dX5_takeBack_28 0 rfl ?_
      refine x_callVv (pc := 29) hc cl_X5_46 cfM kcX5 [] (m_X5_remember hI (kl K) G A B hR hV) rfl rfl (by simp [Value.category]) rfl rfl ⟨by decide, by decide⟩ dX5_takeBack_29 (fun Gc29 q29 => ?_)
      obtain ⟨gR, gU, gn, gN⟩ := q29
      have hg0 : Sim (gv Gc29 b) (aF A) := by
        have q := gR.2.1
        rw [gn, ← eb] at q
        exact q
      refine x_G (gc_0 Gc29 b).symm ?_
      refine x_fn (fun z => GC Gc29 b z) (fun g eg => ?_)
      have hg : Sim g (aF A) := by
        rw [eg]
        exact hg0
      refine x_aload_n (pc := 32) hc dX5_takeBack_32 0 rfl ?_
      refine x_get (pc := 33) hc cfM kcX5 4 (by decide) fl_X5_31 rfl dX5_takeBack_33 ?_
      refine x_ar b (by rw [gc_out _ _ _ (by omega), gn, eb]) ?_
      refine x_get (pc := 36) hc (cfS hb) kcX3 3 (by decide) fl_X5_125 rfl dX5_takeBack_36 ?_
      refine x_iload_n (pc := 39) hc dX5_takeBack_39 1 rfl ?_
      refine x_aald (pc := 40) hc (rfR hb) rfl (vp_in_nI (by omega) (by decide)) (b + (35 + k)) (by rw [nI_clamp (by omega)]) dX5_takeBack_40 ?_
      refine x_astore_n (pc := 41) (L' := [(2, .ref (w.2.2 (b + (35 + k)))), (0, .ref (w.2.2 0)), (1, .int (nI k))]) hc dX5_takeBack_41 (by decide) rfl ?_
      refine x_aload_n (pc := 42) hc dX5_takeBack_42 0 rfl ?_
      refine x_dupr (pc := 43) hc dX5_takeBack_43 ?_
      refine x_get (pc := 44) hc (cfD (isR_of hb (by omega))) kcX1 0 (by decide) fl_X5_134 rfl dX5_takeBack_44 ?_
      refine x_as (g (35 + k) 0) (gc_at (by omega) (by omega)) ?_
      refine x_aload_n (pc := 47) hc dX5_takeBack_47 0 rfl ?_
      refine x_get (pc := 48) hc (cfD (isR_of hb (by omega))) kcX1 1 (by decide) fl_X5_129 rfl dX5_takeBack_48 ?_
      refine x_as (g (35 + k) 1) (gc_at (by omega) (by omega)) ?_
      refine x_iadd (pc := 51) hc dX5_takeBack_51 ?_
      refine x_puti (pc := 52) hc (cfD (isR_of hb (by omega))) kcX1 0 (by decide) fl_X5_134 (by decide) rfl (by simp [fX1]) rfl dX5_takeBack_52 ?_
      refine x_G (gc_up (c := 35 + k) (by omega) (by omega)) ?_
      refine x_fn (fun z => GC Gc29 b z) (fun g1 eg1 => ?_)
      refine x_aload_n (pc := 55) hc dX5_takeBack_55 0 rfl ?_
      refine x_callVv (pc := 56) hc cl_X5_140 (cfD (isR_of hb (by omega))) kcX1 [] (m_X1_dropBet hI (kl K) (GC Gc29 b g1) (b + (35 + k)) (isR_of hb (by omega))) rfl rfl (by simp [Value.category]) rfl rfl ⟨by decide, by decide⟩ dX5_takeBack_56 (fun Gc56 q56 => ?_)
      rw [q56]
      rw [gc_up (c := 35 + k) (by omega) (by omega), gc_up (c := 35 + k) (by omega) (by omega)]
      refine x_aload_n (pc := 59) hc dX5_takeBack_59 0 rfl ?_
      refine x_get (pc := 60) hc (cfD (isR_of hb (by omega))) kcX1 0 (by decide) fl_X5_134 rfl dX5_takeBack_60 ?_
      refine x_as ((up2 (up2 g1 (35 + k) 1 0) (35 + k) 2 0) (35 + k) 0) (gc_at (by omega) (by omega)) ?_
      refine x_as (aF A (328 + 5 * k + 0) + aF A (328 + 5 * k + 1)) (by rw [up2_i _ _ _ _ (by omega), up2_i _ _ _ _ (by omega), eg1, up2_s, hg.2.2.2.1 k (by omega) 0 (by omega), hg.2.2.2.1 k (by omega) 1 (by omega)]) ?_
      exact hret _ _ _ _ dX5_takeBack_63 ⟨(by
          unfold qTake
          rw [if_neg (c5), zk, if_neg (c22)]
          all_goals rfl), (by
          unfold tTake
          rw [if_neg (c5), zk, if_neg (c22)]
          exact (by rw [eg1]; exact PC_put eb gR gn gU hV (RV_take (by omega) hRV (by omega)) (Sim_take hg hd20 c1 (by omega))))⟩
    · refine x_bipush (v := (-5)) (pc := 25) hc dX5_takeBack_25 (by decide) ?_
      exact hret _ _ _ _ dX5_takeBack_27 ⟨(by
          unfold qTake
          rw [if_neg (c5), zk, if_pos (c22)]
          all_goals rfl), (by
          unfold tTake
          rw [if_neg (c5), zk, if_pos (c22)]
          exact PC_same hR)⟩
  · refine x_iconst (v := (-1)) (pc := 8) hc dX5_takeBack_8 (by decide) ?_
    exact hret _ _ _ _ dX5_takeBack_9 ⟨(by
        unfold qTake
        rw [if_pos (c5)]
        all_goals rfl), (by
        unfold tTake
        rw [if_pos (c5)]
        exact PC_same hR)⟩
