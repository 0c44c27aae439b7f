theorem nEnd_le {tx : Nat → Int32} {ln pl : Nat} {lo hi : Int32} {e : Nat} (h : nEnd tx ln pl lo hi = (true, e)) : e ≤ ln := by
  have hb := (nEnd_b _ _ _ _ _ h).2.2 rfl
  have h1 := dg_lt hb.2
  unfold nEnd at h
  split at h
  · cases h
  · split at h
    · cases h
    · split at h
      · rename_i h2
        cases h
        have := dg_lt h2.2.1
        omega
      · cases h; omega
theorem wEnd_le {tx : Nat → Int32} {ln pl e : Nat} (h : wEnd tx ln pl = (true, e)) : e ≤ ln := by
  unfold wEnd at h
  split at h
  · exact nEnd_le h
  · exact nEnd_le h
theorem dE_f {tx : Nat → Int32} {ln pl e : Nat} {b : Bool} (hw : wEnd tx ln pl = (b, e)) (hd : b = true → e < ln ∧ 0 ≤ dg tx ln e) : dEnd tx ln pl = (b, e) := by
  unfold dEnd
  rw [hw]
  cases b with
  | false => rfl
  | true =>
    have h1 := dg_sg (hd rfl).2
    dsimp only
    rw [if_neg (fun z => by rw [z] at h1; exact absurd h1 (by decide))]
theorem dE_1 {tx : Nat → Int32} {ln pl e : Nat} (hw : wEnd tx ln pl = (true, e)) (h : ¬ sg tx ln e = 42) : dEnd tx ln pl = (true, e) ∧ dMany tx ln pl = 1 := by
  constructor
  · unfold dEnd
    rw [hw]
    dsimp only
    rw [if_neg h]
  · unfold dMany
    rw [hw, if_neg h]
theorem dE_2 {tx : Nat → Int32} {ln pl e e2 : Nat} {b : Bool} (hw : wEnd tx ln pl = (true, e)) (h : sg tx ln e = 42) (hn : nEnd tx ln (e + 1) 1 20 = (b, e2)) : dEnd tx ln pl = (b, e2) ∧ dMany tx ln pl = numIn tx ln (e + 1) e2 := by
  have h1 : dEnd tx ln pl = (b, e2) := by
    unfold dEnd
    rw [hw]
    dsimp only
    rw [if_pos h, hn]
  constructor
  · exact h1
  · unfold dMany
    rw [hw, if_pos h, h1]
theorem dEnd_le {tx : Nat → Int32} {ln pl e : Nat} (h : dEnd tx ln pl = (true, e)) : e ≤ ln := by
  obtain ⟨b1, e1, hw⟩ : ∃ b1 e1, wEnd tx ln pl = (b1, e1) := ⟨_, _, rfl⟩
  unfold dEnd at h
  rw [hw] at h
  cases b1 with
  | false => cases h
  | true =>
    dsimp only at h
    split at h
    · exact nEnd_le h
    · cases h
      exact wEnd_le hw
/-- what reading an entry tells -/
def REp (tx : Nat → Int32) (ln pl : Nat) (v9 place warmth many : Int32) : Prop := (v9 = 1 ∧ ∃ e, dEnd tx ln pl = (true, e) ∧ place = nI e ∧ warmth = dWarm tx ln pl ∧ many = dMany tx ln pl) ∨ (v9 = 0 ∧ ∃ b e, dEnd tx ln pl = (b, e) ∧ place = nI e ∧ (b = true → e < ln ∧ 0 ≤ dg tx ln e))
set_option maxHeartbeats 4000000 in
set_option maxRecDepth 100000 in
theorem m_X0_readEntry {w : WT} (hI : xI w) (l : Launch) (G : GS) (ln pl : Nat) (hln : ln ≤ 60) (hl : G 1 1 = nI ln) (hp : G 1 2 = nI pl) (hpl : pl < 900) : Mi w l yX0_readEntry cX0_readEntry 2 (some .boolean) ⟨2, 0, 0, 44⟩ [.ref (w.2.2 1)] G (fun v9 G' => REp (G 2) ln pl v9 (G' 1 2) (G' 1 4) (G' 1 5) ∧ (∀ q, q ≠ 1 → G' q = G q) ∧ G' 1 1 = G 1 1) := by
  refine mk_i (L0 := [(0, .ref (w.2.2 1))]) hI (by decide +kernel) rfl (Nat.le_of_ble_eq_true rfl) (fun v G9 h => by have h1 := h.1; unfold REp at h1; rcases h1 with ⟨h9, _⟩ | ⟨h9, _⟩ <;> (rw [h9]; rfl)) (fun K hc hret => ?_)
  refine x_aload_n (pc := 0) hc dX0_readEntry_0 0 rfl ?_
  refine x_bipush (v := 45) (pc := 1) hc dX0_readEntry_1 (by decide) ?_
  refine x_callVi (pc := 3) hc cl_X0_29 cfT kcX0 [.int 45] (m_X0_isAtPlace hI (kl K) G 45 ln pl hln hl hp (by omega) (by decide)) rfl rfl (by simp [Value.category]) rfl rfl ⟨by decide, by decide⟩ dX0_readEntry_3 (fun r3 Gc3 q3 => ?_)
  obtain ⟨er3, eGc3⟩ := q3
  rw [eGc3]
  subst er3
  refine x_nm (fun x6 ex6 => ?_)
  refine x_istore_n (pc := 6) (L' := [(1, .int x6), (0, .ref (w.2.2 1))]) hc dX0_readEntry_6 (by decide) rfl ?_
  refine x_iload_n (pc := 7) hc dX0_readEntry_7 0 rfl ?_
  refine x_if_eq (pc := 8) hc dX0_readEntry_8 21 (by decide) (fun c8 => ?_) (fun c8 => ?_)
  · have hsg : ¬ sg (G 2) ln pl = 45 := by
      rw [ex6] at c8
      exact b01_t c8
    refine x_aload_n (pc := 21) hc dX0_readEntry_21 1 rfl ?_
    refine x_iload_n (pc := 22) hc dX0_readEntry_22 0 rfl ?_
    refine x_if_eq (pc := 23) hc dX0_readEntry_23 30 (by decide) (fun c23 => ?_) (fun c23 => ?_)
    · refine x_iconst (v := 0) (pc := 30) hc dX0_readEntry_30 (by decide) ?_
      refine x_bipush (v := 40) (pc := 31) hc dX0_readEntry_31 (by decide) ?_
      refine x_callVi (pc := 33) hc cl_X0_36 cfT kcX0 [.int 0, .int 40] (m_X0_readNumber hI (kl K) G 0 40 ln pl hln hl hp (by omega) (by omega) (by omega)) rfl rfl (by simp [Value.category]) rfl rfl ⟨by decide, by decide⟩ dX0_readEntry_33 (fun r33 Gc33 q33 => ?_)
      obtain ⟨z33, f33, s33⟩ := q33
      unfold RNp at z33
      rcases z33 with ⟨v33, e33, n33, p33, m33⟩ | ⟨v33, b33, e33, n33, p33, m33⟩
      · refine x_as 1 v33 ?_
        refine x_if_ne (pc := 36) hc dX0_readEntry_36 41 (by decide) (fun c36 => ?_) (fun c36 => ?_)
        · refine x_aload_n (pc := 41) hc dX0_readEntry_41 1 rfl ?_
          refine x_iload_n (pc := 42) hc dX0_readEntry_42 0 rfl ?_
          refine x_if_eq (pc := 43) hc dX0_readEntry_43 54 (by decide) (fun c43 => ?_) (fun c43 => ?_)
          · refine x_aload_n (pc := 54) hc dX0_readEntry_54 1 rfl ?_
            refine x_get (pc := 55) hc cfT kcX0 3 (by decide) fl_X0_40 rfl dX0_readEntry_55 ?_
            refine x_as (numIn (G 2) ln pl e33) m33 ?_
            refine x_puti (pc := 58) hc cfT kcX0 4 (by decide) fl_X0_43 (by decide) rfl (by simp [fX0]) rfl dX0_readEntry_58 ?_
            refine x_Gn (fun G1 eG1 => ?_)
            refine x_aload_n (pc := 61) hc dX0_readEntry_61 1 rfl ?_
            refine x_iconst (v := 1) (pc := 62) hc dX0_readEntry_62 (by decide) ?_
            refine x_puti (pc := 63) hc cfT kcX0 5 (by decide) fl_X0_46 (by decide) rfl (by simp [fX0]) rfl dX0_readEntry_63 ?_
            refine x_Gn (fun G2 eG2 => ?_)
            have hl3 : G2 1 1 = nI ln := by
              rw [eG2, up2_i _ _ _ _ (by omega), eG1, up2_i _ _ _ _ (by omega), s33 1 (by omega) (by omega)]
              exact hl
            have hp3 : G2 1 2 = nI e33 := by
              rw [eG2, up2_i _ _ _ _ (by omega), eG1, up2_i _ _ _ _ (by omega)]
              exact p33
            have hf3 : ∀ q, q ≠ 1 → G2 q = G q := fun q hq => by
              rw [eG2, up2_r _ _ _ hq, eG1, up2_r _ _ _ hq, f33 q hq]
            have hr3 : G2 2 = G 2 := hf3 2 (by omega)
            have he3 : wEnd (G 2) ln pl = (true, e33) := (by unfold wEnd; rw [if_neg hsg]; exact n33)
            have hwl := wEnd_le he3
            have hw3 : G2 1 4 = dWarm (G 2) ln pl := by
              rw [eG2, up2_i _ _ _ _ (by omega), eG1, up2_s]
              unfold dWarm
              rw [if_neg hsg, he3]
            have hm3 : G2 1 5 = 1 := by
              rw [eG2, up2_s]
            refine x_aload_n (pc := 66) hc dX0_readEntry_66 1 rfl ?_
            refine x_bipush (v := 42) (pc := 67) hc dX0_readEntry_67 (by decide) ?_
            refine x_callVi (pc := 69) hc cl_X0_29 cfT kcX0 [.int 42] (m_X0_isAtPlace hI (kl K) G2 42 ln e33 hln hl3 hp3 (by omega) (by decide)) rfl rfl (by simp [Value.category]) rfl rfl ⟨by decide, by decide⟩ dX0_readEntry_69 (fun r69 Gc69 q69 => ?_)
            obtain ⟨er69, eGc69⟩ := q69
            rw [eGc69]
            subst er69
            refine x_as (b01 (sg (G 2) ln e33 = 42)) (by rw [hr3]) ?_
            refine x_if_eq (pc := 72) hc dX0_readEntry_72 105 (by decide) (fun c72 => ?_) (fun c72 => ?_)
            · refine x_iconst (v := 1) (pc := 105) hc dX0_readEntry_105 (by decide) ?_
              exact hret _ _ _ _ dX0_readEntry_106 ⟨Or.inl ⟨rfl, e33, (dE_1 he3 (b01_t c72)).1, hp3, hw3, hm3.trans (dE_1 he3 (b01_t c72)).2.symm⟩, hf3, hl3.trans hl.symm⟩
            · refine x_aload_n (pc := 75) hc dX0_readEntry_75 1 rfl ?_
              refine x_dupr (pc := 76) hc dX0_readEntry_76 ?_
              refine x_get (pc := 77) hc cfT kcX0 2 (by decide) fl_X0_19 rfl dX0_readEntry_77 ?_
              refine x_as (nI e33) hp3 ?_
              refine x_iconst (v := 1) (pc := 80) hc dX0_readEntry_80 (by decide) ?_
              refine x_iadd (pc := 81) hc dX0_readEntry_81 ?_
              refine x_as (nI (e33 + 1)) (nI_add _ _) ?_
              refine x_puti (pc := 82) hc cfT kcX0 2 (by decide) fl_X0_19 (by decide) rfl (by simp [fX0]) rfl dX0_readEntry_82 ?_
              refine x_Gn (fun G3 eG3 => ?_)
              refine x_aload_n (pc := 85) hc dX0_readEntry_85 1 rfl ?_
              refine x_iconst (v := 1) (pc := 86) hc dX0_readEntry_86 (by decide) ?_
              refine x_bipush (v := 20) (pc := 87) hc dX0_readEntry_87 (by decide) ?_
              refine x_callVi (pc := 89) hc cl_X0_36 cfT kcX0 [.int 1, .int 20] (m_X0_readNumber hI (kl K) G3 1 20 ln (e33 + 1) hln (by rw [eG3, up2_i _ _ _ _ (by omega)]; exact hl3) (by rw [eG3, up2_s]) (by omega) (by omega) (by omega)) rfl rfl (by simp [Value.category]) rfl rfl ⟨by decide, by decide⟩ dX0_readEntry_89 (fun r89 Gc89 q89 => ?_)
              obtain ⟨z89, f89, s89⟩ := q89
              rw [eG3, up2_r _ _ _ (by omega), hr3] at z89
              unfold RNp at z89
              rcases z89 with ⟨v89, e89, n89, p89, m89⟩ | ⟨v89, b89, e89, n89, p89, m89⟩
              · refine x_as 1 v89 ?_
                refine x_if_ne (pc := 92) hc dX0_readEntry_92 97 (by decide) (fun c92 => ?_) (fun c92 => ?_)
                · refine x_aload_n (pc := 97) hc dX0_readEntry_97 1 rfl ?_
                  refine x_aload_n (pc := 98) hc dX0_readEntry_98 1 rfl ?_
                  refine x_get (pc := 99) hc cfT kcX0 3 (by decide) fl_X0_40 rfl dX0_readEntry_99 ?_
                  refine x_as (numIn (G 2) ln (e33 + 1) e89) m89 ?_
                  refine x_puti (pc := 102) hc cfT kcX0 5 (by decide) fl_X0_46 (by decide) rfl (by simp [fX0]) rfl dX0_readEntry_102 ?_
                  refine x_Gn (fun G4 eG4 => ?_)
                  refine x_iconst (v := 1) (pc := 105) hc dX0_readEntry_105 (by decide) ?_
                  exact hret _ _ _ _ dX0_readEntry_106 ⟨Or.inl ⟨rfl, e89, (dE_2 he3 (b01_f c72) n89).1, by rw [eG4, up2_i _ _ _ _ (by omega)]; exact p89, by rw [eG4, up2_i _ _ _ _ (by omega), s89 4 (by omega) (by omega), eG3, up2_i _ _ _ _ (by omega)]; exact hw3, by rw [eG4, up2_s, (dE_2 he3 (b01_f c72) n89).2]⟩, fun q hq => by rw [eG4, up2_r _ _ _ hq, f89 q hq, eG3, up2_r _ _ _ hq, hf3 q hq], by rw [eG4, up2_i _ _ _ _ (by omega), s89 1 (by omega) (by omega), eG3, up2_i _ _ _ _ (by omega), hl3, hl]⟩
                · exact absurd c92 (by decide)
              · refine x_as 0 v89 ?_
                refine x_if_ne (pc := 92) hc dX0_readEntry_92 97 (by decide) (fun c92_1 => ?_) (fun c92_1 => ?_)
                · exact absurd c92_1 (by decide)
                · refine x_iconst (v := 0) (pc := 95) hc dX0_readEntry_95 (by decide) ?_
                  exact hret _ _ _ _ dX0_readEntry_96 ⟨Or.inr ⟨rfl, b89, e89, (dE_2 he3 (b01_f c72) n89).1, p89, m89⟩, fun q hq => by rw [f89 q hq, eG3, up2_r _ _ _ hq, hf3 q hq], by rw [s89 1 (by omega) (by omega), eG3, up2_i _ _ _ _ (by omega), hl3, hl]⟩
          · rw [ex6] at c43; exact absurd (b01_f c43) hsg
        · exact absurd c36 (by decide)
      · refine x_as 0 v33 ?_
        refine x_if_ne (pc := 36) hc dX0_readEntry_36 41 (by decide) (fun c36_1 => ?_) (fun c36_1 => ?_)
        · exact absurd c36_1 (by decide)
        · refine x_iconst (v := 0) (pc := 39) hc dX0_readEntry_39 (by decide) ?_
          exact hret _ _ _ _ dX0_readEntry_40 ⟨Or.inr ⟨rfl, b33, e33, dE_f (by unfold wEnd; rw [if_neg hsg]; exact n33) m33, p33, m33⟩, fun q hq => by rw [f33 q hq], by rw [s33 1 (by omega) (by omega)]⟩
    · rw [ex6] at c23; exact absurd (b01_f c23) hsg
  · have hsg_1 : sg (G 2) ln pl = 45 := by
      rw [ex6] at c8
      exact b01_f c8
    refine x_aload_n (pc := 11) hc dX0_readEntry_11 1 rfl ?_
    refine x_dupr (pc := 12) hc dX0_readEntry_12 ?_
    refine x_get (pc := 13) hc cfT kcX0 2 (by decide) fl_X0_19 rfl dX0_readEntry_13 ?_
    refine x_as (nI pl) hp ?_
    refine x_iconst (v := 1) (pc := 16) hc dX0_readEntry_16 (by decide) ?_
    refine x_iadd (pc := 17) hc dX0_readEntry_17 ?_
    refine x_as (nI (pl + 1)) (nI_add _ _) ?_
    refine x_puti (pc := 18) hc cfT kcX0 2 (by decide) fl_X0_19 (by decide) rfl (by simp [fX0]) rfl dX0_readEntry_18 ?_
    refine x_Gn (fun G5 eG5 => ?_)
    refine x_aload_n (pc := 21) hc dX0_readEntry_21 1 rfl ?_
    refine x_iload_n (pc := 22) hc dX0_readEntry_22 0 rfl ?_
    refine x_if_eq (pc := 23) hc dX0_readEntry_23 30 (by decide) (fun c23_1 => ?_) (fun c23_1 => ?_)
    · rw [ex6] at c23_1; exact absurd hsg_1 (b01_t c23_1)
    · refine x_iconst (v := 1) (pc := 26) hc dX0_readEntry_26 (by decide) ?_
      refine x_goto (pc := 27) hc dX0_readEntry_27 31 (by decide) ?_
      refine x_bipush (v := 40) (pc := 31) hc dX0_readEntry_31 (by decide) ?_
      refine x_callVi (pc := 33) hc cl_X0_36 cfT kcX0 [.int 1, .int 40] (m_X0_readNumber hI (kl K) G5 1 40 ln (pl + 1) hln (by rw [eG5, up2_i _ _ _ _ (by omega)]; exact hl) (by rw [eG5, up2_s]) (by omega) (by omega) (by omega)) rfl rfl (by simp [Value.category]) rfl rfl ⟨by decide, by decide⟩ dX0_readEntry_33 (fun r33_1 Gc33_1 q33_1 => ?_)
      obtain ⟨z33_1, f33_1, s33_1⟩ := q33_1
      rw [eG5, up2_r _ _ _ (by omega)] at z33_1
      unfold RNp at z33_1
      rcases z33_1 with ⟨v33_1, e33_1, n33_1, p33_1, m33_1⟩ | ⟨v33_1, b33_1, e33_1, n33_1, p33_1, m33_1⟩
      · refine x_as 1 v33_1 ?_
        refine x_if_ne (pc := 36) hc dX0_readEntry_36 41 (by decide) (fun c36_2 => ?_) (fun c36_2 => ?_)
        · refine x_aload_n (pc := 41) hc dX0_readEntry_41 1 rfl ?_
          refine x_iload_n (pc := 42) hc dX0_readEntry_42 0 rfl ?_
          refine x_if_eq (pc := 43) hc dX0_readEntry_43 54 (by decide) (fun c43_1 => ?_) (fun c43_1 => ?_)
          · rw [ex6] at c43_1; exact absurd hsg_1 (b01_t c43_1)
          · refine x_aload_n (pc := 46) hc dX0_readEntry_46 1 rfl ?_
            refine x_get (pc := 47) hc cfT kcX0 3 (by decide) fl_X0_40 rfl dX0_readEntry_47 ?_
            refine x_as (numIn (G 2) ln (pl + 1) e33_1) m33_1 ?_
            refine x_ineg (pc := 50) hc dX0_readEntry_50 ?_
            refine x_goto (pc := 51) hc dX0_readEntry_51 58 (by decide) ?_
            refine x_puti (pc := 58) hc cfT kcX0 4 (by decide) fl_X0_43 (by decide) rfl (by simp [fX0]) rfl dX0_readEntry_58 ?_
            refine x_Gn (fun G6 eG6 => ?_)
            refine x_aload_n (pc := 61) hc dX0_readEntry_61 1 rfl ?_
            refine x_iconst (v := 1) (pc := 62) hc dX0_readEntry_62 (by decide) ?_
            refine x_puti (pc := 63) hc cfT kcX0 5 (by decide) fl_X0_46 (by decide) rfl (by simp [fX0]) rfl dX0_readEntry_63 ?_
            refine x_Gn (fun G7 eG7 => ?_)
            have hl3_1 : G7 1 1 = nI ln := by
              rw [eG7, up2_i _ _ _ _ (by omega), eG6, up2_i _ _ _ _ (by omega), s33_1 1 (by omega) (by omega)]
              exact (by rw [eG5, up2_i _ _ _ _ (by omega)]; exact hl)
            have hp3_1 : G7 1 2 = nI e33_1 := by
              rw [eG7, up2_i _ _ _ _ (by omega), eG6, up2_i _ _ _ _ (by omega)]
              exact p33_1
            have hf3_1 : ∀ q, q ≠ 1 → G7 q = G q := fun q hq => by
              rw [eG7, up2_r _ _ _ hq, eG6, up2_r _ _ _ hq, f33_1 q hq, eG5, up2_r _ _ _ hq]
            have hr3_1 : G7 2 = G 2 := hf3_1 2 (by omega)
            have he3_1 : wEnd (G 2) ln pl = (true, e33_1) := (by unfold wEnd; rw [if_pos hsg_1]; exact n33_1)
            have hwl := wEnd_le he3_1
            have hw3_1 : G7 1 4 = dWarm (G 2) ln pl := by
              rw [eG7, up2_i _ _ _ _ (by omega), eG6, up2_s]
              unfold dWarm
              rw [if_pos hsg_1, he3_1]
            have hm3_1 : G7 1 5 = 1 := by
              rw [eG7, up2_s]
            refine x_aload_n (pc := 66) hc dX0_readEntry_66 1 rfl ?_
            refine x_bipush (v := 42) (pc := 67) hc dX0_readEntry_67 (by decide) ?_
            refine x_callVi (pc := 69) hc cl_X0_29 cfT kcX0 [.int 42] (m_X0_isAtPlace hI (kl K) G7 42 ln e33_1 hln hl3_1 hp3_1 (by omega) (by decide)) rfl rfl (by simp [Value.category]) rfl rfl ⟨by decide, by decide⟩ dX0_readEntry_69 (fun r69_1 Gc69_1 q69_1 => ?_)
            obtain ⟨er69_1, eGc69_1⟩ := q69_1
            rw [eGc69_1]
            subst er69_1
            refine x_as (b01 (sg (G 2) ln e33_1 = 42)) (by rw [hr3_1]) ?_
            refine x_if_eq (pc := 72) hc dX0_readEntry_72 105 (by decide) (fun c72_1 => ?_) (fun c72_1 => ?_)
            · refine x_iconst (v := 1) (pc := 105) hc dX0_readEntry_105 (by decide) ?_
              exact hret _ _ _ _ dX0_readEntry_106 ⟨Or.inl ⟨rfl, e33_1, (dE_1 he3_1 (b01_t c72_1)).1, hp3_1, hw3_1, hm3_1.trans (dE_1 he3_1 (b01_t c72_1)).2.symm⟩, hf3_1, hl3_1.trans hl.symm⟩
            · refine x_aload_n (pc := 75) hc dX0_readEntry_75 1 rfl ?_
              refine x_dupr (pc := 76) hc dX0_readEntry_76 ?_
              refine x_get (pc := 77) hc cfT kcX0 2 (by decide) fl_X0_19 rfl dX0_readEntry_77 ?_
              refine x_as (nI e33_1) hp3_1 ?_
              refine x_iconst (v := 1) (pc := 80) hc dX0_readEntry_80 (by decide) ?_
              refine x_iadd (pc := 81) hc dX0_readEntry_81 ?_
              refine x_as (nI (e33_1 + 1)) (nI_add _ _) ?_
              refine x_puti (pc := 82) hc cfT kcX0 2 (by decide) fl_X0_19 (by decide) rfl (by simp [fX0]) rfl dX0_readEntry_82 ?_
              refine x_Gn (fun G8 eG8 => ?_)
              refine x_aload_n (pc := 85) hc dX0_readEntry_85 1 rfl ?_
              refine x_iconst (v := 1) (pc := 86) hc dX0_readEntry_86 (by decide) ?_
              refine x_bipush (v := 20) (pc := 87) hc dX0_readEntry_87 (by decide) ?_
              refine x_callVi (pc := 89) hc cl_X0_36 cfT kcX0 [.int 1, .int 20] (m_X0_readNumber hI (kl K) G8 1 20 ln (e33_1 + 1) hln (by rw [eG8, up2_i _ _ _ _ (by omega)]; exact hl3_1) (by rw [eG8, up2_s]) (by omega) (by omega) (by omega)) rfl rfl (by simp [Value.category]) rfl rfl ⟨by decide, by decide⟩ dX0_readEntry_89 (fun r89_1 Gc89_1 q89_1 => ?_)
              obtain ⟨z89_1, f89_1, s89_1⟩ := q89_1
              rw [eG8, up2_r _ _ _ (by omega), hr3_1] at z89_1
              unfold RNp at z89_1
              rcases z89_1 with ⟨v89_1, e89_1, n89_1, p89_1, m89_1⟩ | ⟨v89_1, b89_1, e89_1, n89_1, p89_1, m89_1⟩
              · refine x_as 1 v89_1 ?_
                refine x_if_ne (pc := 92) hc dX0_readEntry_92 97 (by decide) (fun c92_2 => ?_) (fun c92_2 => ?_)
                · refine x_aload_n (pc := 97) hc dX0_readEntry_97 1 rfl ?_
                  refine x_aload_n (pc := 98) hc dX0_readEntry_98 1 rfl ?_
                  refine x_get (pc := 99) hc cfT kcX0 3 (by decide) fl_X0_40 rfl dX0_readEntry_99 ?_
                  refine x_as (numIn (G 2) ln (e33_1 + 1) e89_1) m89_1 ?_
                  refine x_puti (pc := 102) hc cfT kcX0 5 (by decide) fl_X0_46 (by decide) rfl (by simp [fX0]) rfl dX0_readEntry_102 ?_
                  refine x_Gn (fun G9 eG9 => ?_)
                  refine x_iconst (v := 1) (pc := 105) hc dX0_readEntry_105 (by decide) ?_
                  exact hret _ _ _ _ dX0_readEntry_106 ⟨Or.inl ⟨rfl, e89_1, (dE_2 he3_1 (b01_f c72_1) n89_1).1, by rw [eG9, up2_i _ _ _ _ (by omega)]; exact p89_1, by rw [eG9, up2_i _ _ _ _ (by omega), s89_1 4 (by omega) (by omega), eG8, up2_i _ _ _ _ (by omega)]; exact hw3_1, by rw [eG9, up2_s, (dE_2 he3_1 (b01_f c72_1) n89_1).2]⟩, fun q hq => by rw [eG9, up2_r _ _ _ hq, f89_1 q hq, eG8, up2_r _ _ _ hq, hf3_1 q hq], by rw [eG9, up2_i _ _ _ _ (by omega), s89_1 1 (by omega) (by omega), eG8, up2_i _ _ _ _ (by omega), hl3_1, hl]⟩
                · exact absurd c92_2 (by decide)
              · refine x_as 0 v89_1 ?_
                refine x_if_ne (pc := 92) hc dX0_readEntry_92 97 (by decide) (fun c92_3 => ?_) (fun c92_3 => ?_)
                · exact absurd c92_3 (by decide)
                · refine x_iconst (v := 0) (pc := 95) hc dX0_readEntry_95 (by decide) ?_
                  exact hret _ _ _ _ dX0_readEntry_96 ⟨Or.inr ⟨rfl, b89_1, e89_1, (dE_2 he3_1 (b01_f c72_1) n89_1).1, p89_1, m89_1⟩, fun q hq => by rw [f89_1 q hq, eG8, up2_r _ _ _ hq, hf3_1 q hq], by rw [s89_1 1 (by omega) (by omega), eG8, up2_i _ _ _ _ (by omega), hl3_1, hl]⟩
        · exact absurd c36_2 (by decide)
      · refine x_as 0 v33_1 ?_
        refine x_if_ne (pc := 36) hc dX0_readEntry_36 41 (by decide) (fun c36_3 => ?_) (fun c36_3 => ?_)
        · exact absurd c36_3 (by decide)
        · refine x_iconst (v := 0) (pc := 39) hc dX0_readEntry_39 (by decide) ?_
          exact hret _ _ _ _ dX0_readEntry_40 ⟨Or.inr ⟨rfl, b33_1, e33_1, dE_f (by unfold wEnd; rw [if_pos hsg_1]; exact n33_1) m33_1, p33_1, m33_1⟩, fun q hq => by rw [f33_1 q hq, eG5, up2_r _ _ _ hq], by rw [s33_1 1 (by omega) (by omega), eG5, up2_i _ _ _ _ (by omega)]⟩
