/-- which slots of a state are numbers -/
def relS (c i : Nat) : Prop := (c = 0 ∧ 4 ≤ i ∧ i ≤ 12) ∨ (c = 1 ∧ i < 4) ∨ (3 ≤ c ∧ c < 28 ∧ (c - 3) % 5 ≠ 0 ∧ i < 20) ∨ (3 ≤ c ∧ c < 28 ∧ (c - 3) % 5 = 0 ∧ i = 4) ∨ (29 ≤ c ∧ c < 34 ∧ i < 4) ∨ (35 ≤ c ∧ c < 39 ∧ i < 5)
def cpY (n c i : Nat) : Prop := (c = 1 ∧ i < 4) ∨ (3 ≤ c ∧ c < 3 + 5 * n ∧ (c - 3) % 5 ≠ 0 ∧ i < 20) ∨ (3 ≤ c ∧ c < 3 + 5 * n ∧ (c - 3) % 5 = 0 ∧ i = 4)
def cpN (n c i : Nat) : Prop := cpY 5 c i ∨ (29 ≤ c ∧ c < 29 + n ∧ i < 4)
def cpR (n c i : Nat) : Prop := cpN 5 c i ∨ (35 ≤ c ∧ c < 35 + n ∧ i < 5)
/-- the slots P of the state at b are as those at o were in G; nothing outside of b has changed -/
def cpI (G G' : GS) (b o : Nat) (P : Nat → Nat → Prop) : Prop := (∀ c i, c < 39 → P c i → G' (b + c) i = G (o + c) i) ∧ ∀ q, q < b ∨ b + 39 ≤ q → G' q = G q
theorem isB_ap {b o : Nat} (hb : isB b) (ho : isB o) (h : b ≠ o) : b + 39 ≤ o ∨ o + 39 ≤ b := by
  obtain ⟨i, hi, rfl⟩ := hb
  obtain ⟨j, hj, rfl⟩ := ho
  omega
theorem isB_lt {b : Nat} (hb : isB b) : 5 ≤ b ∧ b + 39 ≤ 239 := by
  obtain ⟨i, hi, rfl⟩ := hb
  omega
theorem cpI_Y {G G1 G2 : GS} {b o n : Nat} (hn : n < 5) (hap : b + 39 ≤ o ∨ o + 39 ≤ b) (h : cpI G G1 b o (cpY n)) (h1 : ∀ i, 1 ≤ i → i ≤ 4 → ∀ j, j < 20 → G2 (b + (3 + 5 * n) + i) j = G1 (o + (3 + 5 * n) + i) j) (h2 : G2 (b + (3 + 5 * n)) 4 = G1 (o + (3 + 5 * n)) 4) (h3 : ∀ q, q < b + (3 + 5 * n) ∨ b + (3 + 5 * n) + 5 ≤ q → G2 q = G1 q) : cpI G G2 b o (cpY (n + 1)) := by
  refine ⟨fun c i hc hp => ?_, fun q hq => ?_⟩
  · by_cases h4 : 3 + 5 * n ≤ c ∧ c < 3 + 5 * (n + 1)
    · by_cases h5 : c = 3 + 5 * n
      · subst h5
        have hi : i = 4 := by unfold cpY at hp; omega
        subst hi
        rw [h2, h.2 _ (by omega)]
      · have hi : i < 20 := by unfold cpY at hp; omega
        have e := h1 (c - (3 + 5 * n)) (by omega) (by omega) i hi
        rw [show b + (3 + 5 * n) + (c - (3 + 5 * n)) = b + c by omega, show o + (3 + 5 * n) + (c - (3 + 5 * n)) = o + c by omega] at e
        rw [e, h.2 _ (by omega)]
    · rw [h3 _ (by omega)]
      exact h.1 c i hc (by unfold cpY at hp ⊢; omega)
  · rw [h3 q (by omega), h.2 q hq]
theorem cpI_N {G G1 G2 : GS} {b o n : Nat} (hn : n < 5) (hap : b + 39 ≤ o ∨ o + 39 ≤ b) (h : cpI G G1 b o (cpN n)) (h1 : ∀ j, j < 4 → G2 (b + (29 + n)) j = G1 (o + (29 + n)) j) (h3 : ∀ q, q ≠ b + (29 + n) → G2 q = G1 q) : cpI G G2 b o (cpN (n + 1)) := by
  refine ⟨fun c i hc hp => ?_, fun q hq => ?_⟩
  · by_cases h4 : c = 29 + n
    · subst h4
      have hi : i < 4 := by unfold cpN cpY at hp; omega
      rw [h1 i hi, h.2 _ (by omega)]
    · rw [h3 _ (by omega)]
      exact h.1 c i hc (by unfold cpN cpY at hp ⊢; omega)
  · rw [h3 q (by omega), h.2 q hq]
theorem cpI_R {G G1 G2 : GS} {b o n : Nat} (hn : n < 4) (hap : b + 39 ≤ o ∨ o + 39 ≤ b) (h : cpI G G1 b o (cpR n)) (h1 : ∀ j, j < 5 → G2 (b + (35 + n)) j = G1 (o + (35 + n)) j) (h3 : ∀ q, q ≠ b + (35 + n) → G2 q = G1 q) : cpI G G2 b o (cpR (n + 1)) := by
  refine ⟨fun c i hc hp => ?_, fun q hq => ?_⟩
  · by_cases h4 : c = 35 + n
    · subst h4
      have hi : i < 5 := by unfold cpR cpN cpY at hp; omega
      rw [h1 i hi, h.2 _ (by omega)]
    · rw [h3 _ (by omega)]
      exact h.1 c i hc (by unfold cpR cpN cpY at hp ⊢; omega)
  · rw [h3 q (by omega), h.2 q hq]
set_option maxHeartbeats 4000000 in
set_option maxRecDepth 100000 in
theorem m_X3_copyFrom {w : WT} (hI : xI w) (l : Launch) (G : GS) (b o : Nat) (hb : isB b) (ho : isB o) (hbo : b ≠ o) (hz : ∀ k, k < 4 → G (o + (35 + k)) 2 = 0 ∨ G (o + (35 + k)) 2 = 1) : Mv w l yX3_copyFrom cX3_copyFrom 3 ⟨2, 0, 0, 51⟩ [.ref (w.2.2 b), .ref (w.2.2 o)] G (fun G' => cpI G G' b o relS) := by
  refine mk_v (L0 := [(0, .ref (w.2.2 b)), (1, .ref (w.2.2 o))]) hI (by decide +kernel) rfl (Nat.le_of_ble_eq_true rfl) (fun K hc hret => ?_)
  have hap := isB_ap hb ho hbo
  have hlb := isB_lt hb
  have hlo := isB_lt ho
  refine x_aload_n (pc := 0) hc dX3_copyFrom_0 1 rfl ?_
  refine x_get (pc := 1) hc (cfS ho) kcX3 0 (by decide) fl_X3_9 rfl dX3_copyFrom_1 ?_
  refine x_iconst (v := 0) (pc := 4) hc dX3_copyFrom_4 (by decide) ?_
  refine x_aload_n (pc := 5) hc dX3_copyFrom_5 0 rfl ?_
  refine x_get (pc := 6) hc (cfS hb) kcX3 0 (by decide) fl_X3_9 rfl dX3_copyFrom_6 ?_
  refine x_iconst (v := 0) (pc := 9) hc dX3_copyFrom_9 (by decide) ?_
  refine x_iconst (v := 4) (pc := 10) hc dX3_copyFrom_10 (by decide) ?_
  refine x_copy (pc := 11) hc ml_X3_18 (afS ho) (afS hb) (by decide) (by decide) (by decide) (by simp [Value.category]; decide) dX3_copyFrom_11 ?_
  refine x_G (cpy_eq _ _ _ _) ?_
  refine x_Gn (fun G1 eG1 => ?_)
  refine x_iconst (v := 0) (pc := 14) hc dX3_copyFrom_14 (by decide) ?_
  refine x_istore_n (pc := 15) (L' := [(2, .int 0), (0, .ref (w.2.2 b)), (1, .ref (w.2.2 o))]) hc dX3_copyFrom_15 (by decide) rfl ?_
  have loop16 : ∀ (n1 : Nat) (n : Nat) (Gx : GS), n ≤ 5 → 5 < n + n1 → cpI G Gx b o (cpY n) → XX w K 3 Gx 16 [(2, .int (nI n)), (0, .ref (w.2.2 b)), (1, .ref (w.2.2 o))] [] := by
    intro n1
    induction n1 with
    | zero => intro n Gx hn hf hI9; omega
    | succ n1 ih =>
      intro n Gx hn hf hI9
      refine x_iload_n (pc := 16) hc dX3_copyFrom_16 0 rfl ?_
      refine x_iconst (v := 5) (pc := 17) hc dX3_copyFrom_17 (by decide) ?_
      refine x_icmp_ge (pc := 18) hc dX3_copyFrom_18 42 (by decide) (fun c18 => ?_) (fun c18 => ?_)
      · have c18 : 5 ≤ n := (nI_leI (a := 5) (b := n) (by omega) (by omega)).mp c18
        refine x_iconst (v := 0) (pc := 42) hc dX3_copyFrom_42 (by decide) ?_
        refine x_istore_n (pc := 43) (L' := [(2, .int 0), (0, .ref (w.2.2 b)), (1, .ref (w.2.2 o))]) hc dX3_copyFrom_43 (by decide) rfl ?_
        have loop44 : ∀ (n1 : Nat) (n : Nat) (Gx : GS), n ≤ 5 → 5 < n + n1 → cpI G Gx b o (cpN n) → XX w K 3 Gx 44 [(2, .int (nI n)), (0, .ref (w.2.2 b)), (1, .ref (w.2.2 o))] [] := by
          intro n1
          induction n1 with
          | zero => intro n Gx hn hf hI9; omega
          | succ n1 ih =>
            intro n Gx hn hf hI9
            refine x_iload_n (pc := 44) hc dX3_copyFrom_44 0 rfl ?_
            refine x_iconst (v := 5) (pc := 45) hc dX3_copyFrom_45 (by decide) ?_
            refine x_icmp_ge (pc := 46) hc dX3_copyFrom_46 70 (by decide) (fun c46 => ?_) (fun c46 => ?_)
            · have c46 : 5 ≤ n := (nI_leI (a := 5) (b := n) (by omega) (by omega)).mp c46
              refine x_iconst (v := 0) (pc := 70) hc dX3_copyFrom_70 (by decide) ?_
              refine x_istore_n (pc := 71) (L' := [(2, .int 0), (0, .ref (w.2.2 b)), (1, .ref (w.2.2 o))]) hc dX3_copyFrom_71 (by decide) rfl ?_
              have loop72 : ∀ (n1 : Nat) (n : Nat) (Gx : GS), n ≤ 4 → 4 < n + n1 → cpI G Gx b o (cpR n) → XX w K 3 Gx 72 [(2, .int (nI n)), (0, .ref (w.2.2 b)), (1, .ref (w.2.2 o))] [] := by
                intro n1
                induction n1 with
                | zero => intro n Gx hn hf hI9; omega
                | succ n1 ih =>
                  intro n Gx hn hf hI9
                  refine x_iload_n (pc := 72) hc dX3_copyFrom_72 0 rfl ?_
                  refine x_iconst (v := 4) (pc := 73) hc dX3_copyFrom_73 (by decide) ?_
                  refine x_icmp_ge (pc := 74) hc dX3_copyFrom_74 98 (by decide) (fun c74 => ?_) (fun c74 => ?_)
                  · have c74 : 4 ≤ n := (nI_leI (a := 4) (b := n) (by omega) (by omega)).mp c74
                    refine x_aload_n (pc := 98) hc dX3_copyFrom_98 1 rfl ?_
                    refine x_aload_n (pc := 99) hc dX3_copyFrom_99 2 rfl ?_
                    refine x_get (pc := 100) hc (cfS ho) kcX3 4 (by decide) fl_X3_59 rfl dX3_copyFrom_100 ?_
                    refine x_puti (pc := 103) hc (cfS hb) kcX3 4 (by decide) fl_X3_59 (by decide) rfl (by simp [fX3]) rfl dX3_copyFrom_103 ?_
                    refine x_Gn (fun G2 eG2 => ?_)
                    refine x_aload_n (pc := 106) hc dX3_copyFrom_106 1 rfl ?_
                    refine x_aload_n (pc := 107) hc dX3_copyFrom_107 2 rfl ?_
                    refine x_get (pc := 108) hc (cfS ho) kcX3 5 (by decide) fl_X3_62 rfl dX3_copyFrom_108 ?_
                    refine x_puti (pc := 111) hc (cfS hb) kcX3 5 (by decide) fl_X3_62 (by decide) rfl (by simp [fX3]) rfl dX3_copyFrom_111 ?_
                    refine x_Gn (fun G3 eG3 => ?_)
                    refine x_aload_n (pc := 114) hc dX3_copyFrom_114 1 rfl ?_
                    refine x_aload_n (pc := 115) hc dX3_copyFrom_115 2 rfl ?_
                    refine x_get (pc := 116) hc (cfS ho) kcX3 6 (by decide) fl_X3_65 rfl dX3_copyFrom_116 ?_
                    refine x_puti (pc := 119) hc (cfS hb) kcX3 6 (by decide) fl_X3_65 (by decide) rfl (by simp [fX3]) rfl dX3_copyFrom_119 ?_
                    refine x_Gn (fun G4 eG4 => ?_)
                    refine x_aload_n (pc := 122) hc dX3_copyFrom_122 1 rfl ?_
                    refine x_aload_n (pc := 123) hc dX3_copyFrom_123 2 rfl ?_
                    refine x_get (pc := 124) hc (cfS ho) kcX3 7 (by decide) fl_X3_68 rfl dX3_copyFrom_124 ?_
                    refine x_puti (pc := 127) hc (cfS hb) kcX3 7 (by decide) fl_X3_68 (by decide) rfl (by simp [fX3]) rfl dX3_copyFrom_127 ?_
                    refine x_Gn (fun G5 eG5 => ?_)
                    refine x_aload_n (pc := 130) hc dX3_copyFrom_130 1 rfl ?_
                    refine x_aload_n (pc := 131) hc dX3_copyFrom_131 2 rfl ?_
                    refine x_get (pc := 132) hc (cfS ho) kcX3 8 (by decide) fl_X3_71 rfl dX3_copyFrom_132 ?_
                    refine x_puti (pc := 135) hc (cfS hb) kcX3 8 (by decide) fl_X3_71 (by decide) rfl (by simp [fX3]) rfl dX3_copyFrom_135 ?_
                    refine x_Gn (fun G6 eG6 => ?_)
                    refine x_aload_n (pc := 138) hc dX3_copyFrom_138 1 rfl ?_
                    refine x_aload_n (pc := 139) hc dX3_copyFrom_139 2 rfl ?_
                    refine x_get (pc := 140) hc (cfS ho) kcX3 9 (by decide) fl_X3_74 rfl dX3_copyFrom_140 ?_
                    refine x_puti (pc := 143) hc (cfS hb) kcX3 9 (by decide) fl_X3_74 (by decide) rfl (by simp [fX3]) rfl dX3_copyFrom_143 ?_
                    refine x_Gn (fun G7 eG7 => ?_)
                    refine x_aload_n (pc := 146) hc dX3_copyFrom_146 1 rfl ?_
                    refine x_aload_n (pc := 147) hc dX3_copyFrom_147 2 rfl ?_
                    refine x_get (pc := 148) hc (cfS ho) kcX3 10 (by decide) fl_X3_77 rfl dX3_copyFrom_148 ?_
                    refine x_puti (pc := 151) hc (cfS hb) kcX3 10 (by decide) fl_X3_77 (by decide) rfl (by simp [fX3]) rfl dX3_copyFrom_151 ?_
                    refine x_Gn (fun G8 eG8 => ?_)
                    refine x_aload_n (pc := 154) hc dX3_copyFrom_154 1 rfl ?_
                    refine x_aload_n (pc := 155) hc dX3_copyFrom_155 2 rfl ?_
                    refine x_get (pc := 156) hc (cfS ho) kcX3 11 (by decide) fl_X3_80 rfl dX3_copyFrom_156 ?_
                    refine x_puti (pc := 159) hc (cfS hb) kcX3 11 (by decide) fl_X3_80 (by decide) rfl (by simp [fX3]) rfl dX3_copyFrom_159 ?_
                    refine x_Gn (fun G9 eG9 => ?_)
                    refine x_aload_n (pc := 162) hc dX3_copyFrom_162 1 rfl ?_
                    refine x_aload_n (pc := 163) hc dX3_copyFrom_163 2 rfl ?_
                    refine x_get (pc := 164) hc (cfS ho) kcX3 12 (by decide) fl_X3_83 rfl dX3_copyFrom_164 ?_
                    refine x_puti (pc := 167) hc (cfS hb) kcX3 12 (by decide) fl_X3_83 (by decide) rfl (by simp [fX3]) rfl dX3_copyFrom_167 ?_
                    refine x_Gn (fun G10 eG10 => ?_)
                    exact hret _ _ _ dX3_copyFrom_170 (by
                        rw [show n = 4 by omega] at hI9
                        refine ⟨fun c i hc hp => ?_, fun q hq => ?_⟩
                        · by_cases h0 : c = 0
                          · subst h0
                            have hi : 4 ≤ i ∧ i ≤ 12 := by unfold relS at hp; omega
                            rw [Nat.add_zero, Nat.add_zero]
                            rcases (show i = 4 ∨ i = 5 ∨ i = 6 ∨ i = 7 ∨ i = 8 ∨ i = 9 ∨ i = 10 ∨ i = 11 ∨ i = 12 by omega) with rfl | rfl | rfl | rfl | rfl | rfl | rfl | rfl | rfl
                            · rw [eG10, up2_i _ _ _ _ (by omega), eG9, up2_i _ _ _ _ (by omega), eG8, up2_i _ _ _ _ (by omega), eG7, up2_i _ _ _ _ (by omega), eG6, up2_i _ _ _ _ (by omega), eG5, up2_i _ _ _ _ (by omega), eG4, up2_i _ _ _ _ (by omega), eG3, up2_i _ _ _ _ (by omega), eG2, up2_s, hI9.2 o (by omega)]
                            · rw [eG10, up2_i _ _ _ _ (by omega), eG9, up2_i _ _ _ _ (by omega), eG8, up2_i _ _ _ _ (by omega), eG7, up2_i _ _ _ _ (by omega), eG6, up2_i _ _ _ _ (by omega), eG5, up2_i _ _ _ _ (by omega), eG4, up2_i _ _ _ _ (by omega), eG3, up2_s, eG2, up2_k _ _ _ _ (by omega), hI9.2 o (by omega)]
                            · rw [eG10, up2_i _ _ _ _ (by omega), eG9, up2_i _ _ _ _ (by omega), eG8, up2_i _ _ _ _ (by omega), eG7, up2_i _ _ _ _ (by omega), eG6, up2_i _ _ _ _ (by omega), eG5, up2_i _ _ _ _ (by omega), eG4, up2_s, eG3, up2_k _ _ _ _ (by omega), eG2, up2_k _ _ _ _ (by omega), hI9.2 o (by omega)]
                            · rw [eG10, up2_i _ _ _ _ (by omega), eG9, up2_i _ _ _ _ (by omega), eG8, up2_i _ _ _ _ (by omega), eG7, up2_i _ _ _ _ (by omega), eG6, up2_i _ _ _ _ (by omega), eG5, up2_s, eG4, up2_k _ _ _ _ (by omega), eG3, up2_k _ _ _ _ (by omega), eG2, up2_k _ _ _ _ (by omega), hI9.2 o (by omega)]
                            · rw [eG10, up2_i _ _ _ _ (by omega), eG9, up2_i _ _ _ _ (by omega), eG8, up2_i _ _ _ _ (by omega), eG7, up2_i _ _ _ _ (by omega), eG6, up2_s, eG5, up2_k _ _ _ _ (by omega), eG4, up2_k _ _ _ _ (by omega), eG3, up2_k _ _ _ _ (by omega), eG2, up2_k _ _ _ _ (by omega), hI9.2 o (by omega)]
                            · rw [eG10, up2_i _ _ _ _ (by omega), eG9, up2_i _ _ _ _ (by omega), eG8, up2_i _ _ _ _ (by omega), eG7, up2_s, eG6, up2_k _ _ _ _ (by omega), eG5, up2_k _ _ _ _ (by omega), eG4, up2_k _ _ _ _ (by omega), eG3, up2_k _ _ _ _ (by omega), eG2, up2_k _ _ _ _ (by omega), hI9.2 o (by omega)]
                            · rw [eG10, up2_i _ _ _ _ (by omega), eG9, up2_i _ _ _ _ (by omega), eG8, up2_s, eG7, up2_k _ _ _ _ (by omega), eG6, up2_k _ _ _ _ (by omega), eG5, up2_k _ _ _ _ (by omega), eG4, up2_k _ _ _ _ (by omega), eG3, up2_k _ _ _ _ (by omega), eG2, up2_k _ _ _ _ (by omega), hI9.2 o (by omega)]
                            · rw [eG10, up2_i _ _ _ _ (by omega), eG9, up2_s, eG8, up2_k _ _ _ _ (by omega), eG7, up2_k _ _ _ _ (by omega), eG6, up2_k _ _ _ _ (by omega), eG5, up2_k _ _ _ _ (by omega), eG4, up2_k _ _ _ _ (by omega), eG3, up2_k _ _ _ _ (by omega), eG2, up2_k _ _ _ _ (by omega), hI9.2 o (by omega)]
                            · rw [eG10, up2_s, eG9, up2_k _ _ _ _ (by omega), eG8, up2_k _ _ _ _ (by omega), eG7, up2_k _ _ _ _ (by omega), eG6, up2_k _ _ _ _ (by omega), eG5, up2_k _ _ _ _ (by omega), eG4, up2_k _ _ _ _ (by omega), eG3, up2_k _ _ _ _ (by omega), eG2, up2_k _ _ _ _ (by omega), hI9.2 o (by omega)]
                          · rw [eG10, up2_r _ _ _ (by omega), eG9, up2_r _ _ _ (by omega), eG8, up2_r _ _ _ (by omega), eG7, up2_r _ _ _ (by omega), eG6, up2_r _ _ _ (by omega), eG5, up2_r _ _ _ (by omega), eG4, up2_r _ _ _ (by omega), eG3, up2_r _ _ _ (by omega), eG2, up2_r _ _ _ (by omega)]
                            exact hI9.1 c i hc (by unfold relS at hp; unfold cpR cpN cpY; omega)
                        · rw [eG10, up2_r _ _ _ (by omega), eG9, up2_r _ _ _ (by omega), eG8, up2_r _ _ _ (by omega), eG7, up2_r _ _ _ (by omega), eG6, up2_r _ _ _ (by omega), eG5, up2_r _ _ _ (by omega), eG4, up2_r _ _ _ (by omega), eG3, up2_r _ _ _ (by omega), eG2, up2_r _ _ _ (by omega)]
                          exact hI9.2 q hq)
                  · have c74 : ¬ 4 ≤ n := fun h9 => c74 ((nI_leI (a := 4) (b := n) (by omega) (by omega)).mpr h9)
                    refine x_aload_n (pc := 77) hc dX3_copyFrom_77 1 rfl ?_
                    refine x_get (pc := 78) hc (cfS hb) kcX3 3 (by decide) fl_X3_40 rfl dX3_copyFrom_78 ?_
                    refine x_iload_n (pc := 81) hc dX3_copyFrom_81 0 rfl ?_
                    refine x_aald (pc := 82) hc (rfR hb) rfl (vp_in_nI (by omega) (by decide)) (b + (35 + n)) (by rw [nI_clamp (by omega)]) dX3_copyFrom_82 ?_
                    refine x_aload_n (pc := 83) hc dX3_copyFrom_83 2 rfl ?_
                    refine x_get (pc := 84) hc (cfS ho) kcX3 3 (by decide) fl_X3_40 rfl dX3_copyFrom_84 ?_
                    refine x_iload_n (pc := 87) hc dX3_copyFrom_87 0 rfl ?_
                    refine x_aald (pc := 88) hc (rfR ho) rfl (vp_in_nI (by omega) (by decide)) (o + (35 + n)) (by rw [nI_clamp (by omega)]) dX3_copyFrom_88 ?_
                    refine x_callVv (pc := 89) hc cl_X3_56 (cfD (isR_of hb (by omega))) kcX1 [.ref (w.2.2 (o + (35 + n)))] (m_X1_copyFrom hI (kl K) Gx (b + (35 + n)) (o + (35 + n)) (isR_of hb (by omega)) (isR_of ho (by omega)) (by omega) (by rw [hI9.2 _ (by omega)]; exact hz n (by omega))) rfl rfl (by simp [Value.category]) rfl rfl ⟨by decide, by decide⟩ dX3_copyFrom_89 (fun Gc89 q89 => ?_)
                    refine x_iinc (pc := 92) (L' := [(2, .int (nI (n + 1))), (0, .ref (w.2.2 b)), (1, .ref (w.2.2 o))]) hc dX3_copyFrom_92 0 rfl (nI (n + 1)) (nI_1 _) (by decide) rfl ?_
                    refine x_goto (pc := 95) hc dX3_copyFrom_95 72 (by decide) ?_
                    refine x_loc [0, 1, 2] rfl ?_
                    exact ih (n + 1) Gc89 (by omega) (by omega) (cpI_R (by omega) hap hI9 q89.1 q89.2)
              refine x_loc [0, 1, 2] rfl ?_
              refine loop72 5 0 _ (by omega) (by omega) ⟨fun c i hc hp => hI9.1 c i hc (show cpN n c i from ?_), hI9.2⟩
              rw [show n = 5 by omega]
              unfold cpR at hp
              rcases hp with h | h
              · exact h
              · omega
            · have c46 : ¬ 5 ≤ n := fun h9 => c46 ((nI_leI (a := 5) (b := n) (by omega) (by omega)).mpr h9)
              refine x_aload_n (pc := 49) hc dX3_copyFrom_49 1 rfl ?_
              refine x_get (pc := 50) hc (cfS hb) kcX3 2 (by decide) fl_X3_33 rfl dX3_copyFrom_50 ?_
              refine x_iload_n (pc := 53) hc dX3_copyFrom_53 0 rfl ?_
              refine x_aald (pc := 54) hc (rfS hb) rfl (vp_in_nI (by omega) (by decide)) (b + (29 + n)) (by rw [nI_clamp (by omega)]) dX3_copyFrom_54 ?_
              refine x_aload_n (pc := 55) hc dX3_copyFrom_55 2 rfl ?_
              refine x_get (pc := 56) hc (cfS ho) kcX3 2 (by decide) fl_X3_33 rfl dX3_copyFrom_56 ?_
              refine x_iload_n (pc := 59) hc dX3_copyFrom_59 0 rfl ?_
              refine x_aald (pc := 60) hc (rfS ho) rfl (vp_in_nI (by omega) (by decide)) (o + (29 + n)) (by rw [nI_clamp (by omega)]) dX3_copyFrom_60 ?_
              refine x_callVv (pc := 61) hc cl_X3_53 (cfN (isN_of hb (by omega))) kcX2 [.ref (w.2.2 (o + (29 + n)))] (m_X2_copyFrom hI (kl K) Gx (b + (29 + n)) (o + (29 + n)) (isN_of hb (by omega)) (isN_of ho (by omega)) (by omega)) rfl rfl (by simp [Value.category]) rfl rfl ⟨by decide, by decide⟩ dX3_copyFrom_61 (fun Gc61 q61 => ?_)
              refine x_iinc (pc := 64) (L' := [(2, .int (nI (n + 1))), (0, .ref (w.2.2 b)), (1, .ref (w.2.2 o))]) hc dX3_copyFrom_64 0 rfl (nI (n + 1)) (nI_1 _) (by decide) rfl ?_
              refine x_goto (pc := 67) hc dX3_copyFrom_67 44 (by decide) ?_
              refine x_loc [0, 1, 2] rfl ?_
              exact ih (n + 1) Gc61 (by omega) (by omega) (cpI_N (by omega) hap hI9 q61.1 q61.2)
        refine x_loc [0, 1, 2] rfl ?_
        refine loop44 6 0 _ (by omega) (by omega) ⟨fun c i hc hp => hI9.1 c i hc (show cpY n c i from ?_), hI9.2⟩
        rw [show n = 5 by omega]
        unfold cpN at hp
        rcases hp with h | h
        · exact h
        · omega
      · have c18 : ¬ 5 ≤ n := fun h9 => c18 ((nI_leI (a := 5) (b := n) (by omega) (by omega)).mpr h9)
        refine x_aload_n (pc := 21) hc dX3_copyFrom_21 1 rfl ?_
        refine x_get (pc := 22) hc (cfS hb) kcX3 1 (by decide) fl_X3_26 rfl dX3_copyFrom_22 ?_
        refine x_iload_n (pc := 25) hc dX3_copyFrom_25 0 rfl ?_
        refine x_aald (pc := 26) hc (rfY hb) rfl (vp_in_nI (by omega) (by decide)) (b + (3 + 5 * n)) (by rw [nI_clamp (by omega)]) dX3_copyFrom_26 ?_
        refine x_aload_n (pc := 27) hc dX3_copyFrom_27 2 rfl ?_
        refine x_get (pc := 28) hc (cfS ho) kcX3 1 (by decide) fl_X3_26 rfl dX3_copyFrom_28 ?_
        refine x_iload_n (pc := 31) hc dX3_copyFrom_31 0 rfl ?_
        refine x_aald (pc := 32) hc (rfY ho) rfl (vp_in_nI (by omega) (by decide)) (o + (3 + 5 * n)) (by rw [nI_clamp (by omega)]) dX3_copyFrom_32 ?_
        refine x_callVv (pc := 33) hc cl_X3_49 (cfY (isY_of hb (by omega))) kcX4 [.ref (w.2.2 (o + (3 + 5 * n)))] (m_X4_copyFrom hI (kl K) Gx (b + (3 + 5 * n)) (o + (3 + 5 * n)) (isY_of hb (by omega)) (isY_of ho (by omega)) (by omega)) rfl rfl (by simp [Value.category]) rfl rfl ⟨by decide, by decide⟩ dX3_copyFrom_33 (fun Gc33 q33 => ?_)
        refine x_iinc (pc := 36) (L' := [(2, .int (nI (n + 1))), (0, .ref (w.2.2 b)), (1, .ref (w.2.2 o))]) hc dX3_copyFrom_36 0 rfl (nI (n + 1)) (nI_1 _) (by decide) rfl ?_
        refine x_goto (pc := 39) hc dX3_copyFrom_39 16 (by decide) ?_
        refine x_loc [0, 1, 2] rfl ?_
        exact ih (n + 1) Gc33 (by omega) (by omega) (cpI_Y (by omega) hap hI9 q33.1 q33.2.1 q33.2.2)
  refine x_loc [0, 1, 2] rfl ?_
  refine loop16 6 0 _ (by omega) (by omega) ⟨fun c i hc hp => ?_, fun q hq => ?_⟩
  · unfold cpY at hp
    have hc1 : c = 1 := by omega
    subst hc1
    rw [eG1, up1_s, cp_at _ _ _ _ (by omega)]
  · rw [eG1, up1_n _ _ (by omega)]
