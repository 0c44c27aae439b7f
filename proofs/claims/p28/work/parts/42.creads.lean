theorem inB_d4 {y : Int32} (h0 : ¬ y = 0) (h1 : ¬ y = 1) (h2 : ¬ y = 2) (h3 : ¬ y = 3) (h4 : ¬ y = 4) : inB y 0 4 = 0 := by
  by_cases h : inB y 0 4 = 0
  · exact h
  · obtain ⟨e, he, rfl⟩ := inB_nat (n := 4) rfl h
    rcases (show e = 0 ∨ e = 1 ∨ e = 2 ∨ e = 3 ∨ e = 4 by omega) with rfl | rfl | rfl | rfl | rfl
    · exact absurd rfl h0
    · exact absurd rfl h1
    · exact absurd rfl h2
    · exact absurd rfl h3
    · exact absurd rfl h4
theorem inB_d1 {y : Int32} (h0 : ¬ y = 0) (h1 : ¬ y = 1) : inB y 0 1 = 0 := by
  by_cases h : inB y 0 1 = 0
  · exact h
  · obtain ⟨e, he, rfl⟩ := inB_nat (n := 1) rfl h
    rcases (show e = 0 ∨ e = 1 by omega) with rfl | rfl
    · exact absurd rfl h0
    · exact absurd rfl h1
theorem inB_d3 {y : Int32} (h0 : ¬ y = 12) (h1 : ¬ y = 13) (h2 : ¬ y = 14) (h3 : ¬ y = 15) : inB y 12 15 = 0 := by
  by_cases h : inB y 12 15 = 0
  · exact h
  · obtain ⟨e, he, rfl⟩ := inB_1215 h
    rcases (show e = 0 ∨ e = 1 ∨ e = 2 ∨ e = 3 by omega) with rfl | rfl | rfl | rfl
    · exact absurd rfl h0
    · exact absurd rfl h1
    · exact absurd rfl h2
    · exact absurd rfl h3
set_option maxHeartbeats 4000000 in
set_option maxRecDepth 100000 in
theorem C_dayOf {w : WT} (hI : xI w) (l : Launch) (G : GS) (x y : Int32) (A : AT) (B : Nat) (hR : RC G A) (hV : AV A B) (hZ : AZ A) (hB : B + 1 < 2 ^ 30) : Mi w l yX5_dayOf cX5_dayOf 5 (some .int) ⟨3, 0, 0, 73⟩ [.ref (w.2.2 0), .int x, .int y] G (fun v9 G' => v9 = qDayOf A x y ∧ PCq G G' A) := by
  refine mk_i (L0 := [(0, .ref (w.2.2 0)), (1, .int x), (2, .int y)]) hI (by decide +kernel) rfl (Nat.le_of_ble_eq_true rfl) (fun _ _ _ => rfl) (fun K hc hret => ?_)
  obtain ⟨b, eb⟩ : ∃ b, b = stb (G 0 4) := ⟨_, rfl⟩
  obtain ⟨h1, h2, h3, h4, h5, h6, h7, h8⟩ := id hR
  rw [← eb] at h2
  have hb : isB b := by rw [eb]; exact h1.1.2.2.2.2
  have hlb := isB_lt hb
  have hS0 := h2
  obtain ⟨s1, ⟨t4, t5, t6, t7, t8, t9, t10, t11, t12⟩, s3, s4, ⟨y1, y2, y3, y4⟩, so⟩ := h2
  have hRV := hV.2.1
  obtain ⟨⟨d1, d2⟩, ⟨v1, v2, v3⟩, ⟨r1, r2⟩, ho, ⟨c1, c2, c3⟩, hb4⟩ := id hRV
  have hd20 := Nat.le_of_lt d1
  have hn4 := hV.1
  have u4 : G b 4 = nI (cN (aF A)) := t4.trans c2
  have u5 : G b 5 = nI (yN (aF A)) := t5.trans v2
  have u6 : G b 6 = nI (dN (aF A)) := t6.trans d2
  refine x_iload_n (pc := 0) hc dX5_dayOf_0 1 rfl ?_
  refine x_bipush (v := 20) (pc := 1) hc dX5_dayOf_1 (by decide) ?_
  refine x_callSi (pc := 3) hc cl_X5_76 [.int x, .int 20] (m_X5_isIndex hI (kl K) G x 20) rfl rfl (by simp [Value.category]) rfl rfl ⟨by decide, by decide⟩ dX5_dayOf_3 (fun r3 Gc3 q3 => ?_)
  obtain ⟨er3, eGc3⟩ := q3
  rw [eGc3]
  subst er3
  refine x_as (inB x 0 19) (ix_b _ rfl) ?_
  refine x_if_ne (pc := 6) hc dX5_dayOf_6 11 (by decide) (fun c6 => ?_) (fun c6 => ?_)
  · obtain ⟨d, hd, rfl⟩ := inB_nat (n := 19) rfl c6
    have zd : (nI d).toNatClampNeg = d := nI_clamp (by omega)
    refine x_aload_n (pc := 11) hc dX5_dayOf_11 0 rfl ?_
    refine x_get (pc := 12) hc cfM kcX5 4 (by decide) fl_X5_31 rfl dX5_dayOf_12 ?_
    refine x_ar b eb.symm ?_
    refine x_callVr (pc := 15) hc cl_X5_82 (cfS hb) kcX3 [] (m_X3_yearOfNow hI (kl K) G b ((yN (aF A))) hb (by omega) u5) rfl rfl (by simp [Value.category]) rfl rfl ⟨by decide, by decide⟩ dX5_dayOf_15 (fun r15 Gc15 q15 => ?_)
    obtain ⟨er15, eGc15⟩ := q15
    rw [eGc15]
    subst er15
    refine x_astore_n (pc := 18) (L' := [(3, .ref (w.2.2 (b + (3 + 5 * ((yN (aF A)) % 5))))), (0, .ref (w.2.2 0)), (1, .int (nI d)), (2, .int y)]) hc dX5_dayOf_18 (by decide) rfl ?_
    refine x_iload_n (pc := 19) hc dX5_dayOf_19 2 rfl ?_
    refine x_aload_n (pc := 20) hc dX5_dayOf_20 1 rfl ?_
    refine x_get (pc := 21) hc cfM kcX5 4 (by decide) fl_X5_31 rfl dX5_dayOf_21 ?_
    refine x_ar b eb.symm ?_
    refine x_get (pc := 24) hc (cfS hb) kcX3 6 (by decide) fl_X5_79 rfl dX5_dayOf_24 ?_
    refine x_as (aF A 300) t6 ?_
    refine x_icmp_ge (pc := 27) hc dX5_dayOf_27 34 (by decide) (fun c27 => ?_) (fun c27 => ?_)
    · refine x_iconst (v := 0) (pc := 34) hc dX5_dayOf_34 (by decide) ?_
      refine x_istore (pc := 35) (L' := [(4, .int 0), (3, .ref (w.2.2 (b + (3 + 5 * ((yN (aF A)) % 5))))), (0, .ref (w.2.2 0)), (1, .int (nI d)), (2, .int y)]) hc dX5_dayOf_35 (by decide) rfl ?_
      refine x_iload_n (pc := 37) hc dX5_dayOf_37 4 rfl ?_
      by_cases s38_0 : y = 0
      · subst s38_0
        refine x_tableIn (pc := 38) hc dX5_dayOf_38 (by decide) (by decide) rfl 72 (by decide) ?_
        refine x_aload_n (pc := 72) hc dX5_dayOf_72 1 rfl ?_
        refine x_get (pc := 73) hc (cfY (isY_of hb (by omega))) kcX4 0 (by decide) fl_X5_86 rfl dX5_dayOf_73 ?_
        refine x_iload_n (pc := 76) hc dX5_dayOf_76 3 rfl ?_
        refine x_iald (pc := 77) hc (afY (isY_of hb (by omega)) (i := 1) (by decide) (by decide)) (vp_in_nI (by omega) (by decide)) dX5_dayOf_77 ?_
        refine x_as (G (b + (3 + 5 * ((yN (aF A)) % 5)) + 1) d) (congrArg _ (nI_clamp (by omega))) ?_
        refine x_as (aF A d) (y1 d (by omega)) ?_
        refine x_sipush (v := 1000) (pc := 78) hc dX5_dayOf_78 (by decide) ?_
        refine x_iadd (pc := 81) hc dX5_dayOf_81 ?_
        exact hret _ _ _ _ dX5_dayOf_82 ⟨(by unfold qDayOf; rw [if_neg c6, if_pos rfl, zd]), PC_same hR⟩
      by_cases s38_1 : y = 1
      · subst s38_1
        refine x_tableIn (pc := 38) hc dX5_dayOf_38 (by decide) (by decide) rfl 83 (by decide) ?_
        refine x_aload_n (pc := 83) hc dX5_dayOf_83 2 rfl ?_
        refine x_get (pc := 84) hc cfM kcX5 4 (by decide) fl_X5_31 rfl dX5_dayOf_84 ?_
        refine x_ar b eb.symm ?_
        refine x_iload_n (pc := 87) hc dX5_dayOf_87 3 rfl ?_
        refine x_callVi (pc := 88) hc cl_X5_152 (cfS hb) kcX3 [.int (nI d)] (m_X3_foretoldOf hI (kl K) G d b (aF A) B hb hS0 hRV (by omega) (by omega)) rfl rfl (by simp [Value.category]) rfl rfl ⟨by decide, by decide⟩ dX5_dayOf_88 (fun r88 Gc88 q88 => ?_)
        obtain ⟨er88, eGc88⟩ := q88
        rw [eGc88]
        subst er88
        refine x_sipush (v := 1000) (pc := 91) hc dX5_dayOf_91 (by decide) ?_
        refine x_iadd (pc := 94) hc dX5_dayOf_94 ?_
        exact hret _ _ _ _ dX5_dayOf_95 ⟨(by unfold qDayOf; rw [if_neg c6, if_neg (by decide), if_pos rfl, zd]), PC_same hR⟩
      by_cases s38_2 : y = 2
      · subst s38_2
        refine x_tableIn (pc := 38) hc dX5_dayOf_38 (by decide) (by decide) rfl 96 (by decide) ?_
        refine x_iload (pc := 96) hc dX5_dayOf_96 0 rfl ?_
        refine x_if_eq (pc := 98) hc dX5_dayOf_98 114 (by decide) (fun c98 => ?_) (fun c98 => ?_)
        · refine x_bipush (v := (-5)) (pc := 114) hc dX5_dayOf_114 (by decide) ?_
          exact hret _ _ _ _ dX5_dayOf_116 ⟨(by unfold qDayOf; rw [if_neg c6, if_neg (by decide), if_neg (by decide), if_pos rfl, if_neg (Int32.not_lt.mpr c27)]), PC_same hR⟩
        · exact absurd (by decide) c98
      by_cases s38_3 : y = 3
      · subst s38_3
        refine x_tableIn (pc := 38) hc dX5_dayOf_38 (by decide) (by decide) rfl 117 (by decide) ?_
        refine x_iload (pc := 117) hc dX5_dayOf_117 0 rfl ?_
        refine x_if_eq (pc := 119) hc dX5_dayOf_119 135 (by decide) (fun c119 => ?_) (fun c119 => ?_)
        · refine x_bipush (v := (-5)) (pc := 135) hc dX5_dayOf_135 (by decide) ?_
          exact hret _ _ _ _ dX5_dayOf_137 ⟨(by unfold qDayOf; rw [if_neg c6, if_neg (by decide), if_neg (by decide), if_neg (by decide), if_pos rfl, if_neg (Int32.not_lt.mpr c27)]), PC_same hR⟩
        · exact absurd (by decide) c119
      by_cases s38_4 : y = 4
      · subst s38_4
        refine x_tableIn (pc := 38) hc dX5_dayOf_38 (by decide) (by decide) rfl 138 (by decide) ?_
        refine x_aload_n (pc := 138) hc dX5_dayOf_138 2 rfl ?_
        refine x_get (pc := 139) hc cfM kcX5 4 (by decide) fl_X5_31 rfl dX5_dayOf_139 ?_
        refine x_ar b eb.symm ?_
        refine x_aload_n (pc := 142) hc dX5_dayOf_142 2 rfl ?_
        refine x_get (pc := 143) hc cfM kcX5 4 (by decide) fl_X5_31 rfl dX5_dayOf_143 ?_
        refine x_ar b eb.symm ?_
        refine x_iload_n (pc := 146) hc dX5_dayOf_146 3 rfl ?_
        refine x_callVi (pc := 147) hc cl_X5_152 (cfS hb) kcX3 [.int (nI d)] (m_X3_foretoldOf hI (kl K) G d b (aF A) B hb hS0 hRV (by omega) (by omega)) rfl rfl (by simp [Value.category]) rfl rfl ⟨by decide, by decide⟩ dX5_dayOf_147 (fun r147 Gc147 q147 => ?_)
        obtain ⟨er147, eGc147⟩ := q147
        rw [eGc147]
        subst er147
        refine x_callVi (pc := 150) hc cl_X5_161 (cfS hb) kcX3 [.int (rToldOf (aF A) d)] (m_X3_isFrostForetold hI (kl K) G b (rToldOf (aF A) d) hb) rfl rfl (by simp [Value.category]) rfl rfl ⟨by decide, by decide⟩ dX5_dayOf_150 (fun r150 Gc150 q150 => ?_)
        obtain ⟨er150, eGc150⟩ := q150
        rw [eGc150]
        subst er150
        refine x_as (b01 (rToldOf (aF A) d ≤ aF A 305)) (congrArg (fun q => b01 (rToldOf (aF A) d ≤ q)) (s1 2 (by omega))) ?_
        refine x_callSi (pc := 153) hc cl_X5_165 [.int (b01 (rToldOf (aF A) d ≤ aF A 305))] (m_X5_oneIf hI (kl K) G (b01 (rToldOf (aF A) d ≤ aF A 305)) (b01_le _)) rfl rfl (by simp [Value.category]) rfl rfl ⟨by decide, by decide⟩ dX5_dayOf_153 (fun r153 Gc153 q153 => ?_)
        obtain ⟨er153, eGc153⟩ := q153
        rw [eGc153]
        subst er153
        exact hret _ _ _ _ dX5_dayOf_156 ⟨(by unfold qDayOf; rw [if_neg c6, if_neg (by decide), if_neg (by decide), if_neg (by decide), if_neg (by decide), if_pos rfl, zd]), PC_same hR⟩
      have t38_0 : y.toInt ≠ 0 := fun z => s38_0 (Int32.toInt_inj.mp z)
      have t38_1 : y.toInt ≠ 1 := fun z => s38_1 (Int32.toInt_inj.mp z)
      have t38_2 : y.toInt ≠ 2 := fun z => s38_2 (Int32.toInt_inj.mp z)
      have t38_3 : y.toInt ≠ 3 := fun z => s38_3 (Int32.toInt_inj.mp z)
      have t38_4 : y.toInt ≠ 4 := fun z => s38_4 (Int32.toInt_inj.mp z)
      refine x_tableOut (pc := 38) hc dX5_dayOf_38 (by omega) 157 (by decide) ?_
      refine x_bipush (v := (-2)) (pc := 157) hc dX5_dayOf_157 (by decide) ?_
      exact hret _ _ _ _ dX5_dayOf_159 ⟨(by unfold qDayOf; rw [if_neg c6, if_neg s38_0, if_neg s38_1, if_neg s38_2, if_neg s38_3, if_neg s38_4]), PC_same hR⟩
    · have hm : d < dN (aF A) := by
        have q := Int32.not_le.mp c27
        rw [d2] at q
        exact (nI_ltI (by omega) (by omega)).mp q
      refine x_iconst (v := 1) (pc := 30) hc dX5_dayOf_30 (by decide) ?_
      refine x_goto (pc := 31) hc dX5_dayOf_31 35 (by decide) ?_
      refine x_istore (pc := 35) (L' := [(4, .int 1), (3, .ref (w.2.2 (b + (3 + 5 * ((yN (aF A)) % 5))))), (0, .ref (w.2.2 0)), (1, .int (nI d)), (2, .int y)]) hc dX5_dayOf_35 (by decide) rfl ?_
      refine x_iload_n (pc := 37) hc dX5_dayOf_37 4 rfl ?_
      by_cases s38_0 : y = 0
      · subst s38_0
        refine x_tableIn (pc := 38) hc dX5_dayOf_38 (by decide) (by decide) rfl 72 (by decide) ?_
        refine x_aload_n (pc := 72) hc dX5_dayOf_72 1 rfl ?_
        refine x_get (pc := 73) hc (cfY (isY_of hb (by omega))) kcX4 0 (by decide) fl_X5_86 rfl dX5_dayOf_73 ?_
        refine x_iload_n (pc := 76) hc dX5_dayOf_76 3 rfl ?_
        refine x_iald (pc := 77) hc (afY (isY_of hb (by omega)) (i := 1) (by decide) (by decide)) (vp_in_nI (by omega) (by decide)) dX5_dayOf_77 ?_
        refine x_as (G (b + (3 + 5 * ((yN (aF A)) % 5)) + 1) d) (congrArg _ (nI_clamp (by omega))) ?_
        refine x_as (aF A d) (y1 d (by omega)) ?_
        refine x_sipush (v := 1000) (pc := 78) hc dX5_dayOf_78 (by decide) ?_
        refine x_iadd (pc := 81) hc dX5_dayOf_81 ?_
        exact hret _ _ _ _ dX5_dayOf_82 ⟨(by unfold qDayOf; rw [if_neg c6, if_pos rfl, zd]), PC_same hR⟩
      by_cases s38_1 : y = 1
      · subst s38_1
        refine x_tableIn (pc := 38) hc dX5_dayOf_38 (by decide) (by decide) rfl 83 (by decide) ?_
        refine x_aload_n (pc := 83) hc dX5_dayOf_83 2 rfl ?_
        refine x_get (pc := 84) hc cfM kcX5 4 (by decide) fl_X5_31 rfl dX5_dayOf_84 ?_
        refine x_ar b eb.symm ?_
        refine x_iload_n (pc := 87) hc dX5_dayOf_87 3 rfl ?_
        refine x_callVi (pc := 88) hc cl_X5_152 (cfS hb) kcX3 [.int (nI d)] (m_X3_foretoldOf hI (kl K) G d b (aF A) B hb hS0 hRV (by omega) (by omega)) rfl rfl (by simp [Value.category]) rfl rfl ⟨by decide, by decide⟩ dX5_dayOf_88 (fun r88_1 Gc88_1 q88_1 => ?_)
        obtain ⟨er88_1, eGc88_1⟩ := q88_1
        rw [eGc88_1]
        subst er88_1
        refine x_sipush (v := 1000) (pc := 91) hc dX5_dayOf_91 (by decide) ?_
        refine x_iadd (pc := 94) hc dX5_dayOf_94 ?_
        exact hret _ _ _ _ dX5_dayOf_95 ⟨(by unfold qDayOf; rw [if_neg c6, if_neg (by decide), if_pos rfl, zd]), PC_same hR⟩
      by_cases s38_2 : y = 2
      · subst s38_2
        refine x_tableIn (pc := 38) hc dX5_dayOf_38 (by decide) (by decide) rfl 96 (by decide) ?_
        refine x_iload (pc := 96) hc dX5_dayOf_96 0 rfl ?_
        refine x_if_eq (pc := 98) hc dX5_dayOf_98 114 (by decide) (fun c98_1 => ?_) (fun c98_1 => ?_)
        · exact absurd c98_1 (by decide)
        · refine x_aload_n (pc := 101) hc dX5_dayOf_101 1 rfl ?_
          refine x_get (pc := 102) hc (cfY (isY_of hb (by omega))) kcX4 2 (by decide) fl_X5_155 rfl dX5_dayOf_102 ?_
          refine x_iload_n (pc := 105) hc dX5_dayOf_105 3 rfl ?_
          refine x_iald (pc := 106) hc (afY (isY_of hb (by omega)) (i := 3) (by decide) (by decide)) (vp_in_nI (by omega) (by decide)) dX5_dayOf_106 ?_
          refine x_as (G (b + (3 + 5 * ((yN (aF A)) % 5)) + 3) d) (congrArg _ (nI_clamp (by omega))) ?_
          refine x_as (aF A (40 + d)) (y2 d hm).2 ?_
          refine x_sipush (v := 1000) (pc := 107) hc dX5_dayOf_107 (by decide) ?_
          refine x_iadd (pc := 110) hc dX5_dayOf_110 ?_
          refine x_goto (pc := 111) hc dX5_dayOf_111 116 (by decide) ?_
          exact hret _ _ _ _ dX5_dayOf_116 ⟨(by unfold qDayOf; rw [if_neg c6, if_neg (by decide), if_neg (by decide), if_pos rfl, if_pos (Int32.not_le.mp c27), zd]), PC_same hR⟩
      by_cases s38_3 : y = 3
      · subst s38_3
        refine x_tableIn (pc := 38) hc dX5_dayOf_38 (by decide) (by decide) rfl 117 (by decide) ?_
        refine x_iload (pc := 117) hc dX5_dayOf_117 0 rfl ?_
        refine x_if_eq (pc := 119) hc dX5_dayOf_119 135 (by decide) (fun c119_1 => ?_) (fun c119_1 => ?_)
        · exact absurd c119_1 (by decide)
        · refine x_aload_n (pc := 122) hc dX5_dayOf_122 1 rfl ?_
          refine x_get (pc := 123) hc (cfY (isY_of hb (by omega))) kcX4 3 (by decide) fl_X5_158 rfl dX5_dayOf_123 ?_
          refine x_iload_n (pc := 126) hc dX5_dayOf_126 3 rfl ?_
          refine x_iald (pc := 127) hc (afY (isY_of hb (by omega)) (i := 4) (by decide) (by decide)) (vp_in_nI (by omega) (by decide)) dX5_dayOf_127 ?_
          refine x_as (G (b + (3 + 5 * ((yN (aF A)) % 5)) + 4) d) (congrArg _ (nI_clamp (by omega))) ?_
          refine x_as (aF A (40 + d) - aF A (20 + d)) ((y3 d (by omega)).trans (if_pos hm)) ?_
          refine x_sipush (v := 1000) (pc := 128) hc dX5_dayOf_128 (by decide) ?_
          refine x_iadd (pc := 131) hc dX5_dayOf_131 ?_
          refine x_goto (pc := 132) hc dX5_dayOf_132 137 (by decide) ?_
          exact hret _ _ _ _ dX5_dayOf_137 ⟨(by unfold qDayOf; rw [if_neg c6, if_neg (by decide), if_neg (by decide), if_neg (by decide), if_pos rfl, if_pos (Int32.not_le.mp c27), zd]), PC_same hR⟩
      by_cases s38_4 : y = 4
      · subst s38_4
        refine x_tableIn (pc := 38) hc dX5_dayOf_38 (by decide) (by decide) rfl 138 (by decide) ?_
        refine x_aload_n (pc := 138) hc dX5_dayOf_138 2 rfl ?_
        refine x_get (pc := 139) hc cfM kcX5 4 (by decide) fl_X5_31 rfl dX5_dayOf_139 ?_
        refine x_ar b eb.symm ?_
        refine x_aload_n (pc := 142) hc dX5_dayOf_142 2 rfl ?_
        refine x_get (pc := 143) hc cfM kcX5 4 (by decide) fl_X5_31 rfl dX5_dayOf_143 ?_
        refine x_ar b eb.symm ?_
        refine x_iload_n (pc := 146) hc dX5_dayOf_146 3 rfl ?_
        refine x_callVi (pc := 147) hc cl_X5_152 (cfS hb) kcX3 [.int (nI d)] (m_X3_foretoldOf hI (kl K) G d b (aF A) B hb hS0 hRV (by omega) (by omega)) rfl rfl (by simp [Value.category]) rfl rfl ⟨by decide, by decide⟩ dX5_dayOf_147 (fun r147_1 Gc147_1 q147_1 => ?_)
        obtain ⟨er147_1, eGc147_1⟩ := q147_1
        rw [eGc147_1]
        subst er147_1
        refine x_callVi (pc := 150) hc cl_X5_161 (cfS hb) kcX3 [.int (rToldOf (aF A) d)] (m_X3_isFrostForetold hI (kl K) G b (rToldOf (aF A) d) hb) rfl rfl (by simp [Value.category]) rfl rfl ⟨by decide, by decide⟩ dX5_dayOf_150 (fun r150_1 Gc150_1 q150_1 => ?_)
        obtain ⟨er150_1, eGc150_1⟩ := q150_1
        rw [eGc150_1]
        subst er150_1
        refine x_as (b01 (rToldOf (aF A) d ≤ aF A 305)) (congrArg (fun q => b01 (rToldOf (aF A) d ≤ q)) (s1 2 (by omega))) ?_
        refine x_callSi (pc := 153) hc cl_X5_165 [.int (b01 (rToldOf (aF A) d ≤ aF A 305))] (m_X5_oneIf hI (kl K) G (b01 (rToldOf (aF A) d ≤ aF A 305)) (b01_le _)) rfl rfl (by simp [Value.category]) rfl rfl ⟨by decide, by decide⟩ dX5_dayOf_153 (fun r153_1 Gc153_1 q153_1 => ?_)
        obtain ⟨er153_1, eGc153_1⟩ := q153_1
        rw [eGc153_1]
        subst er153_1
        exact hret _ _ _ _ dX5_dayOf_156 ⟨(by unfold qDayOf; rw [if_neg c6, if_neg (by decide), if_neg (by decide), if_neg (by decide), if_neg (by decide), if_pos rfl, zd]), PC_same hR⟩
      have t38_0 : y.toInt ≠ 0 := fun z => s38_0 (Int32.toInt_inj.mp z)
      have t38_1 : y.toInt ≠ 1 := fun z => s38_1 (Int32.toInt_inj.mp z)
      have t38_2 : y.toInt ≠ 2 := fun z => s38_2 (Int32.toInt_inj.mp z)
      have t38_3 : y.toInt ≠ 3 := fun z => s38_3 (Int32.toInt_inj.mp z)
      have t38_4 : y.toInt ≠ 4 := fun z => s38_4 (Int32.toInt_inj.mp z)
      refine x_tableOut (pc := 38) hc dX5_dayOf_38 (by omega) 157 (by decide) ?_
      refine x_bipush (v := (-2)) (pc := 157) hc dX5_dayOf_157 (by decide) ?_
      exact hret _ _ _ _ dX5_dayOf_159 ⟨(by unfold qDayOf; rw [if_neg c6, if_neg s38_0, if_neg s38_1, if_neg s38_2, if_neg s38_3, if_neg s38_4]), PC_same hR⟩
  · refine x_iconst (v := (-1)) (pc := 9) hc dX5_dayOf_9 (by decide) ?_
    exact hret _ _ _ _ dX5_dayOf_10 ⟨(by unfold qDayOf; rw [if_pos c6]), PC_same hR⟩
set_option maxHeartbeats 4000000 in
set_option maxRecDepth 100000 in
theorem C_readerOf {w : WT} (hI : xI w) (l : Launch) (G : GS) (x y : Int32) (A : AT) (B : Nat) (hR : RC G A) (hV : AV A B) (hZ : AZ A) (hB : B + 1 < 2 ^ 30) : Mi w l yX5_readerOf cX5_readerOf 4 (some .int) ⟨1, 0, 0, 21⟩ [.ref (w.2.2 0), .int x, .int y] G (fun v9 G' => v9 = qReaderOf A x y ∧ PCq G G' A) := by
  refine mk_i (L0 := [(0, .ref (w.2.2 0)), (1, .int x), (2, .int y)]) hI (by decide +kernel) rfl (Nat.le_of_ble_eq_true rfl) (fun _ _ _ => rfl) (fun K hc hret => ?_)
  obtain ⟨b, eb⟩ : ∃ b, b = stb (G 0 4) := ⟨_, rfl⟩
  obtain ⟨h1, h2, h3, h4, h5, h6, h7, h8⟩ := id hR
  rw [← eb] at h2
  have hb : isB b := by rw [eb]; exact h1.1.2.2.2.2
  have hlb := isB_lt hb
  have hS0 := h2
  obtain ⟨s1, ⟨t4, t5, t6, t7, t8, t9, t10, t11, t12⟩, s3, s4, ⟨y1, y2, y3, y4⟩, so⟩ := h2
  have hRV := hV.2.1
  obtain ⟨⟨d1, d2⟩, ⟨v1, v2, v3⟩, ⟨r1, r2⟩, ho, ⟨c1, c2, c3⟩, hb4⟩ := id hRV
  have hd20 := Nat.le_of_lt d1
  have hn4 := hV.1
  have u4 : G b 4 = nI (cN (aF A)) := t4.trans c2
  have u5 : G b 5 = nI (yN (aF A)) := t5.trans v2
  have u6 : G b 6 = nI (dN (aF A)) := t6.trans d2
  refine x_iload_n (pc := 0) hc dX5_readerOf_0 1 rfl ?_
  refine x_iconst (v := 4) (pc := 1) hc dX5_readerOf_1 (by decide) ?_
  refine x_callSi (pc := 2) hc cl_X5_76 [.int x, .int 4] (m_X5_isIndex hI (kl K) G x 4) rfl rfl (by simp [Value.category]) rfl rfl ⟨by decide, by decide⟩ dX5_readerOf_2 (fun r2 Gc2 q2 => ?_)
  obtain ⟨er2, eGc2⟩ := q2
  rw [eGc2]
  subst er2
  refine x_as (inB x 0 3) (ix_b _ rfl) ?_
  refine x_if_ne (pc := 5) hc dX5_readerOf_5 10 (by decide) (fun c5 => ?_) (fun c5 => ?_)
  · obtain ⟨k, hk, rfl⟩ := inB_nat (n := 3) rfl c5
    have zk : (nI k).toNatClampNeg = k := nI_clamp (by omega)
    refine x_aload_n (pc := 10) hc dX5_readerOf_10 0 rfl ?_
    refine x_get (pc := 11) hc cfM kcX5 4 (by decide) fl_X5_31 rfl dX5_readerOf_11 ?_
    refine x_ar b eb.symm ?_
    refine x_get (pc := 14) hc (cfS hb) kcX3 3 (by decide) fl_X5_125 rfl dX5_readerOf_14 ?_
    refine x_iload_n (pc := 17) hc dX5_readerOf_17 1 rfl ?_
    refine x_aald (pc := 18) hc (rfR hb) rfl (vp_in_nI (by omega) (by decide)) (b + (35 + k)) (by rw [nI_clamp (by omega)]) dX5_readerOf_18 ?_
    refine x_astore_n (pc := 19) (L' := [(3, .ref (w.2.2 (b + (35 + k)))), (0, .ref (w.2.2 0)), (1, .int (nI k)), (2, .int y)]) hc dX5_readerOf_19 (by decide) rfl ?_
    refine x_iload_n (pc := 20) hc dX5_readerOf_20 3 rfl ?_
    by_cases s21_0 : y = 0
    · subst s21_0
      refine x_tableIn (pc := 21) hc dX5_readerOf_21 (by decide) (by decide) rfl 56 (by decide) ?_
      refine x_aload_n (pc := 56) hc dX5_readerOf_56 0 rfl ?_
      refine x_get (pc := 57) hc (cfD (isR_of hb (by omega))) kcX1 0 (by decide) fl_X5_134 rfl dX5_readerOf_57 ?_
      refine x_as (aF A (328 + 5 * k + 0)) (s4 k (by omega) 0 (by omega)) ?_
      exact hret _ _ _ _ dX5_readerOf_60 ⟨(by unfold qReaderOf; rw [if_neg c5, if_neg (by decide), zk]; rfl), PC_same hR⟩
    by_cases s21_1 : y = 1
    · subst s21_1
      refine x_tableIn (pc := 21) hc dX5_readerOf_21 (by decide) (by decide) rfl 61 (by decide) ?_
      refine x_aload_n (pc := 61) hc dX5_readerOf_61 0 rfl ?_
      refine x_get (pc := 62) hc (cfD (isR_of hb (by omega))) kcX1 1 (by decide) fl_X5_129 rfl dX5_readerOf_62 ?_
      refine x_as (aF A (328 + 5 * k + 1)) (s4 k (by omega) 1 (by omega)) ?_
      exact hret _ _ _ _ dX5_readerOf_65 ⟨(by unfold qReaderOf; rw [if_neg c5, if_neg (by decide), zk]; rfl), PC_same hR⟩
    by_cases s21_2 : y = 2
    · subst s21_2
      refine x_tableIn (pc := 21) hc dX5_readerOf_21 (by decide) (by decide) rfl 66 (by decide) ?_
      refine x_aload_n (pc := 66) hc dX5_readerOf_66 0 rfl ?_
      refine x_get (pc := 67) hc (cfD (isR_of hb (by omega))) kcX1 2 (by decide) fl_X5_137 rfl dX5_readerOf_67 ?_
      refine x_as (aF A (328 + 5 * k + 2)) (s4 k (by omega) 2 (by omega)) ?_
      refine x_callSi (pc := 70) hc cl_X5_165 [.int (aF A (328 + 5 * k + 2))] (m_X5_oneIf hI (kl K) G (aF A (328 + 5 * k + 2)) ((by obtain ⟨x9, _, _, hx⟩ := hb4 k (by omega); exact hx))) rfl rfl (by simp [Value.category]) rfl rfl ⟨by decide, by decide⟩ dX5_readerOf_70 (fun r70 Gc70 q70 => ?_)
      obtain ⟨er70, eGc70⟩ := q70
      rw [eGc70]
      subst er70
      exact hret _ _ _ _ dX5_readerOf_73 ⟨(by unfold qReaderOf; rw [if_neg c5, if_neg (by decide), zk]; rfl), PC_same hR⟩
    by_cases s21_3 : y = 3
    · subst s21_3
      refine x_tableIn (pc := 21) hc dX5_readerOf_21 (by decide) (by decide) rfl 74 (by decide) ?_
      refine x_aload_n (pc := 74) hc dX5_readerOf_74 0 rfl ?_
      refine x_get (pc := 75) hc (cfD (isR_of hb (by omega))) kcX1 3 (by decide) fl_X5_187 rfl dX5_readerOf_75 ?_
      refine x_as (aF A (328 + 5 * k + 3)) (s4 k (by omega) 3 (by omega)) ?_
      exact hret _ _ _ _ dX5_readerOf_78 ⟨(by unfold qReaderOf; rw [if_neg c5, if_neg (by decide), zk]; rfl), PC_same hR⟩
    by_cases s21_4 : y = 4
    · subst s21_4
      refine x_tableIn (pc := 21) hc dX5_readerOf_21 (by decide) (by decide) rfl 79 (by decide) ?_
      refine x_aload_n (pc := 79) hc dX5_readerOf_79 0 rfl ?_
      refine x_get (pc := 80) hc (cfD (isR_of hb (by omega))) kcX1 4 (by decide) fl_X5_190 rfl dX5_readerOf_80 ?_
      refine x_as (aF A (328 + 5 * k + 4)) (s4 k (by omega) 4 (by omega)) ?_
      exact hret _ _ _ _ dX5_readerOf_83 ⟨(by unfold qReaderOf; rw [if_neg c5, if_neg (by decide), zk]; rfl), PC_same hR⟩
    have t21_0 : y.toInt ≠ 0 := fun z => s21_0 (Int32.toInt_inj.mp z)
    have t21_1 : y.toInt ≠ 1 := fun z => s21_1 (Int32.toInt_inj.mp z)
    have t21_2 : y.toInt ≠ 2 := fun z => s21_2 (Int32.toInt_inj.mp z)
    have t21_3 : y.toInt ≠ 3 := fun z => s21_3 (Int32.toInt_inj.mp z)
    have t21_4 : y.toInt ≠ 4 := fun z => s21_4 (Int32.toInt_inj.mp z)
    refine x_tableOut (pc := 21) hc dX5_readerOf_21 (by omega) 84 (by decide) ?_
    refine x_bipush (v := (-2)) (pc := 84) hc dX5_readerOf_84 (by decide) ?_
    exact hret _ _ _ _ dX5_readerOf_86 ⟨(by unfold qReaderOf; rw [if_neg c5, if_pos (inB_d4 s21_0 s21_1 s21_2 s21_3 s21_4)]), PC_same hR⟩
  · refine x_iconst (v := (-1)) (pc := 8) hc dX5_readerOf_8 (by decide) ?_
    exact hret _ _ _ _ dX5_readerOf_9 ⟨(by unfold qReaderOf; rw [if_pos c5]), PC_same hR⟩
