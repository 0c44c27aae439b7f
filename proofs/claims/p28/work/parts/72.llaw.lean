/-! THE LAW'S OWN WALK -/
theorem all_0 : qFault A0 = 0 := by
  have h := dEnd_out (aT A0) 0
  show (match dEnd (aT A0) 0 0 with | (false, e) => nI e | (true, e) => if e = 0 then -5 else if sg (aT A0) 0 e = 59 then fFault (aT A0) 0 59 (e + 1) else nI e) = 0
  rw [h]
  rfl
theorem all_q0 : qAll A0 = -100 := by
  unfold qAll
  rw [all_0]
  rfl
theorem all_t0 : tAll A0 = A0 := by
  unfold tAll
  rw [all_0]
  rfl
set_option maxHeartbeats 4000000 in
set_option maxRecDepth 100000 in
theorem law_s1 {w : WT} (hI : xI w) {K : KT} {b N : Nat} {xs : Nat → Int32} (hN : N ≤ 260) (hX : va_X b N xs (ks K) (ks K).heap) (hbl : b < (ks K).heap.size) (hbA : ¬ xA w b) (hc : CX w K cL_law 5 RL room_1) (hZ9 : xZ w (ks K) (ks K).heap) (D : Nat → Int32) (kk : LX w K 5 A0 D 29 [(2, .ref (w.2.2 239)), (1, .ref (w.2.2 0)), (0, .ref b)] [.ref (w.2.2 0)]) : LX w K 5 A0 D 13 [(2, .ref (w.2.2 239)), (1, .ref (w.2.2 0)), (0, .ref b)] [] := by
  have hB0 : 0 + 1 < 2 ^ 30 := by omega
  refine l_aload_n (pc := 13) hc dL_law_13 1 rfl ?_
  refine l_s (pc := 14) hc cl_L_96 [.ref (w.2.2 0)] (l_areDays hI (kl K) A0 D 0 LG_0 hB0) rfl rfl (by simp [Value.category]) rfl rfl ⟨by decide, by decide⟩ dL_law_14 (fun r14 Aa14 Da14 q14 => ?_)
  obtain ⟨er14, eAa14, eDa14⟩ := q14
  rw [eAa14, eDa14]
  subst er14
  refine l_if_eq (pc := 17) hc dL_law_17 64 (by decide) (fun c17 => ?_) (fun c17 => ?_)
  · exact absurd c17 (by decide)
  · refine l_aload_n (pc := 20) hc dL_law_20 1 rfl ?_
    refine l_iconst (v := 0) (pc := 21) hc dL_law_21 (by decide) ?_
    refine l_as (nI 0) rfl ?_
    refine l_s (pc := 22) hc cl_L_100 [.ref (w.2.2 0), .int (nI 0)] (l_areYears hI (kl K) A0 D 0 0 (by omega) LG_0 hB0) rfl rfl (by simp [Value.category]) rfl rfl ⟨by decide, by decide⟩ dL_law_22 (fun r22 Aa22 Da22 q22 => ?_)
    obtain ⟨er22, eAa22, eDa22⟩ := q22
    rw [eAa22, eDa22]
    subst er22
    refine l_if_eq (pc := 25) hc dL_law_25 64 (by decide) (fun c25 => ?_) (fun c25 => ?_)
    · exact absurd c25 (by decide)
    · refine l_aload_n (pc := 28) hc dL_law_28 1 rfl ?_
      exact kk
set_option maxHeartbeats 4000000 in
set_option maxRecDepth 100000 in
theorem law_s2 {w : WT} (hI : xI w) {K : KT} {b N : Nat} {xs : Nat → Int32} (hN : N ≤ 260) (hX : va_X b N xs (ks K) (ks K).heap) (hbl : b < (ks K).heap.size) (hbA : ¬ xA w b) (hc : CX w K cL_law 5 RL room_1) (hZ9 : xZ w (ks K) (ks K).heap) (hret : ∀ (pc : Nat) (A' : AT) (D' : Nat → Int32) (L : List (Nat × Value)) (v : Int32), decode cL_law pc = .ok (.ireturn, 1) → v = 1 → LX w K 5 A' D' pc L [.int v]) (D : Nat → Int32) : LX w K 5 A0 D 34 [(2, .ref (w.2.2 239)), (1, .ref (w.2.2 0)), (0, .ref b)] [.int 0] := by
  have hB0 : 0 + 1 < 2 ^ 30 := by omega
  refine l_if_ne (pc := 34) hc dL_law_34 64 (by decide) (fun c34 => ?_) (fun c34 => ?_)
  · exact absurd c34 (by decide)
  · refine l_aload_n (pc := 37) hc dL_law_37 1 rfl ?_
    refine l_q (pc := 38) (A' := (tUndo A0 )) hc cl_L_108 rfl [] (fun G hG9 => C_undo hI (kl K) G  A0 0 hG9 LG_0.1.1 LG_0.1.2 hB0) rfl rfl (by simp [Value.category]) rfl rfl ⟨by decide, by decide⟩ dL_law_38 ?_
    rw [show tUndo A0  = A0 from if_pos rfl]
    refine l_as (-5) (show qUndo A0 = -5 from if_pos rfl) ?_
    refine l_bipush (v := (-5)) (pc := 41) hc dL_law_41 (by decide) ?_
    refine l_icmp_ne (pc := 43) hc dL_law_43 64 (by decide) (fun c43 => ?_) (fun c43 => ?_)
    · exact absurd c43 (by decide)
    · refine l_aload_n (pc := 46) hc dL_law_46 1 rfl ?_
      refine l_q (pc := 47) (A' := (tRestore A0 )) hc cl_L_58 rfl [] (fun G hG9 => C_restore hI (kl K) G  A0 0 hG9 LG_0.1.1 LG_0.1.2 hB0) rfl rfl (by simp [Value.category]) rfl rfl ⟨by decide, by decide⟩ dL_law_47 ?_
      rw [show tRestore A0  = A0 from if_pos rfl]
      refine l_as (-5) (show qRestore A0 = -5 from if_pos rfl) ?_
      refine l_bipush (v := (-5)) (pc := 50) hc dL_law_50 (by decide) ?_
      refine l_icmp_ne (pc := 52) hc dL_law_52 64 (by decide) (fun c52 => ?_) (fun c52 => ?_)
      · exact absurd c52 (by decide)
      · refine l_aload_n (pc := 55) hc dL_law_55 1 rfl ?_
        refine l_q (pc := 56) (A' := (tAll A0 )) hc cl_L_111 rfl [] (fun G hG9 => C_measureAll hI (kl K) G  A0 0 hG9 LG_0.1.1 LG_0.1.2 (by omega)) rfl rfl (by simp [Value.category]) rfl rfl ⟨by decide, by decide⟩ dL_law_56 ?_
        rw [show tAll A0  = A0 from all_t0]
        refine l_as (-100) all_q0 ?_
        refine l_bipush (v := (-100)) (pc := 59) hc dL_law_59 (by decide) ?_
        refine l_icmp_eq (pc := 61) hc dL_law_61 66 (by decide) (fun c61 => ?_) (fun c61 => ?_)
        · refine l_iconst (v := 0) (pc := 66) hc dL_law_66 (by decide) ?_
          refine l_istore_n (pc := 67) (L' := [(3, .int 0), (2, .ref (w.2.2 239)), (1, .ref (w.2.2 0)), (0, .ref b)]) hc dL_law_67 (by decide) rfl ?_
          have loop68 : ∀ (n68 : Nat) (e : Nat) (Ae : AT) (De : Nat → Int32), e ≤ 130 → 131 ≤ e + n68 → LG Ae (200000 * e) → LX w K 5 Ae De 68 [(3, .int (nI e)), (2, .ref (w.2.2 239)), (1, .ref (w.2.2 0)), (0, .ref b)] [] := by
            intro n68
            induction n68 with
            | zero => intro e Ae De he hen hGe; omega
            | succ n68 ih68 =>
              intro e Ae De he hen hGe
              have hBe : 200000 * e + 1 < 2 ^ 30 := by omega
              refine l_iload_n (pc := 68) hc dL_law_68 0 rfl ?_
              refine l_sipush (v := 130) (pc := 69) hc dL_law_69 (by decide) ?_
              refine l_icmp_ge (pc := 72) hc dL_law_72 157 (by decide) (fun c72 => ?_) (fun c72 => ?_)
              · have oc72 := c72
                have c72 : 130 ≤ e := (nI_leI (a := 130) (b := e) (by omega) (by omega)).mp c72
                refine l_aload_n (pc := 157) hc dL_law_157 2 rfl ?_
                refine l_bipush (v := 41) (pc := 158) hc dL_law_158 (by decide) ?_
                refine l_q (pc := 160) (A' := (tMeasure Ae 41)) hc cl_L_49 rfl [.int 41] (fun G hG9 => C_measure hI (kl K) G 41 Ae (200000 * e) hG9 hGe.1.1 hGe.1.2 hBe) rfl rfl (by simp [Value.category]) rfl rfl ⟨by decide, by decide⟩ dL_law_160 ?_
                rw [show tMeasure Ae 41 = Ae from if_pos (by decide)]
                refine l_as (-2) (show qMeasure Ae 41 = -2 from if_pos (by decide)) ?_
                refine l_bipush (v := (-2)) (pc := 163) hc dL_law_163 (by decide) ?_
                refine l_icmp_ne (pc := 165) hc dL_law_165 264 (by decide) (fun c165 => ?_) (fun c165 => ?_)
                · exact absurd c165 (by decide)
                · refine l_aload_n (pc := 168) hc dL_law_168 2 rfl ?_
                  refine l_bipush (v := 20) (pc := 169) hc dL_law_169 (by decide) ?_
                  refine l_iconst (v := 0) (pc := 171) hc dL_law_171 (by decide) ?_
                  refine l_q (pc := 172) (A' := (tBase Ae 20 0)) hc cl_L_67 rfl [.int 20, .int 0] (fun G hG9 => C_base hI (kl K) G 20 0 Ae (200000 * e) hG9 hGe.1.1 hGe.1.2 hBe) rfl rfl (by simp [Value.category]) rfl rfl ⟨by decide, by decide⟩ dL_law_172 ?_
                  rw [show tBase Ae 20 0 = Ae from if_pos (by decide)]
                  refine l_as (-1) (show qBase Ae 20 0 = -1 from if_pos (by decide)) ?_
                  refine l_iconst (v := (-1)) (pc := 175) hc dL_law_175 (by decide) ?_
                  refine l_icmp_ne (pc := 176) hc dL_law_176 264 (by decide) (fun c176 => ?_) (fun c176 => ?_)
                  · exact absurd c176 (by decide)
                  · refine l_aload_n (pc := 179) hc dL_law_179 2 rfl ?_
                    refine l_iconst (v := 0) (pc := 180) hc dL_law_180 (by decide) ?_
                    refine l_bipush (v := 41) (pc := 181) hc dL_law_181 (by decide) ?_
                    refine l_iconst (v := 0) (pc := 183) hc dL_law_183 (by decide) ?_
                    refine l_iconst (v := 1) (pc := 184) hc dL_law_184 (by decide) ?_
                    refine l_q (pc := 185) (A' := (tSaint Ae 0 41 0 1)) hc cl_L_70 rfl [.int 0, .int 41, .int 0, .int 1] (fun G hG9 => C_saint hI (kl K) G 0 41 0 1 Ae (200000 * e) hG9 hGe.1.1 hGe.1.2 hBe) rfl rfl (by simp [Value.category]) rfl rfl ⟨by decide, by decide⟩ dL_law_185 ?_
                    rw [show tSaint Ae 0 41 0 1 = Ae from (by unfold tSaint; rw [if_neg (show ¬ inB (0 : Int32) 0 19 = 0 by decide), if_pos (show inB (41 : Int32) (-40) 40 = 0 by decide)])]
                    refine l_as (-2) (show qSaint Ae 0 41 0 1 = -2 from (by unfold qSaint; rw [if_neg (show ¬ inB (0 : Int32) 0 19 = 0 by decide), if_pos (show inB (41 : Int32) (-40) 40 = 0 by decide)])) ?_
                    refine l_bipush (v := (-2)) (pc := 188) hc dL_law_188 (by decide) ?_
                    refine l_icmp_ne (pc := 190) hc dL_law_190 264 (by decide) (fun c190 => ?_) (fun c190 => ?_)
                    · exact absurd c190 (by decide)
                    · refine l_aload_n (pc := 193) hc dL_law_193 2 rfl ?_
                      refine l_iconst (v := 3) (pc := 194) hc dL_law_194 (by decide) ?_
                      refine l_iconst (v := 0) (pc := 195) hc dL_law_195 (by decide) ?_
                      refine l_qz (pc := 196) (A' := (tSet Ae 3 0)) hc cl_L_77 rfl [.int 3, .int 0] (fun G hG9 => C_set hI (kl K) G 3 0 Ae (200000 * e) hG9 hGe.1.1 hGe.1.2 hBe) hZ9 rfl rfl (by simp [Value.category]) rfl rfl ⟨by decide, by decide⟩ dL_law_196 ?_
                      rw [show tSet Ae 3 0 = Ae from if_pos (by decide)]
                      refine l_as (-2) (show qSet Ae 3 0 = -2 from if_pos (by decide)) ?_
                      refine l_bipush (v := (-2)) (pc := 199) hc dL_law_199 (by decide) ?_
                      refine l_icmp_ne (pc := 201) hc dL_law_201 264 (by decide) (fun c201 => ?_) (fun c201 => ?_)
                      · exact absurd c201 (by decide)
                      · refine l_aload_n (pc := 204) hc dL_law_204 2 rfl ?_
                        refine l_iconst (v := 4) (pc := 205) hc dL_law_205 (by decide) ?_
                        refine l_iconst (v := 1) (pc := 206) hc dL_law_206 (by decide) ?_
                        refine l_iconst (v := 1) (pc := 207) hc dL_law_207 (by decide) ?_
                        refine l_q (pc := 208) (A' := (tBet Ae 4 1 1)) hc cl_L_80 rfl [.int 4, .int 1, .int 1] (fun G hG9 => C_bet hI (kl K) G 4 1 1 Ae (200000 * e) hG9 hGe.1.1 hGe.1.2 hBe (Or.inr rfl)) rfl rfl (by simp [Value.category]) rfl rfl ⟨by decide, by decide⟩ dL_law_208 ?_
                        rw [show tBet Ae 4 1 1 = Ae from if_pos (by decide)]
                        refine l_as (-1) (show qBet Ae 4 1 1 = -1 from if_pos (by decide)) ?_
                        refine l_iconst (v := (-1)) (pc := 211) hc dL_law_211 (by decide) ?_
                        refine l_icmp_ne (pc := 212) hc dL_law_212 264 (by decide) (fun c212 => ?_) (fun c212 => ?_)
                        · exact absurd c212 (by decide)
                        · refine l_aload_n (pc := 215) hc dL_law_215 2 rfl ?_
                          refine l_iconst (v := 0) (pc := 216) hc dL_law_216 (by decide) ?_
                          refine l_iconst (v := 1) (pc := 217) hc dL_law_217 (by decide) ?_
                          refine l_sipush (v := 1001) (pc := 218) hc dL_law_218 (by decide) ?_
                          refine l_q (pc := 221) (A' := (tBet Ae 0 1 1001)) hc cl_L_80 rfl [.int 0, .int 1, .int 1001] (fun G hG9 => C_bet hI (kl K) G 0 1 1001 Ae (200000 * e) hG9 hGe.1.1 hGe.1.2 hBe (Or.inr rfl)) rfl rfl (by simp [Value.category]) rfl rfl ⟨by decide, by decide⟩ dL_law_221 ?_
                          rw [show tBet Ae 0 1 1001 = Ae from (by unfold tBet; rw [if_neg (show ¬ inB (0 : Int32) 0 3 = 0 by decide), if_pos (show inB (1001 : Int32) 1 1000 = 0 by decide)])]
                          refine l_as (-2) (show qBet Ae 0 1 1001 = -2 from (by unfold qBet; rw [if_neg (show ¬ inB (0 : Int32) 0 3 = 0 by decide), if_pos (show inB (1001 : Int32) 1 1000 = 0 by decide)])) ?_
                          refine l_bipush (v := (-2)) (pc := 224) hc dL_law_224 (by decide) ?_
                          refine l_icmp_ne (pc := 226) hc dL_law_226 264 (by decide) (fun c226 => ?_) (fun c226 => ?_)
                          · exact absurd c226 (by decide)
                          · refine l_aload_n (pc := 229) hc dL_law_229 2 rfl ?_
                            refine l_iconst (v := 2) (pc := 230) hc dL_law_230 (by decide) ?_
                            refine l_q (pc := 231) hc cl_L_61 rfl [.int 2] (fun G hG9 => C_bestRate hI (kl K) G 2 Ae (200000 * e) hG9 hGe.1.1 hGe.1.2 hBe) rfl rfl (by simp [Value.category]) rfl rfl ⟨by decide, by decide⟩ dL_law_231 ?_
                            refine l_as (-2) (show qRate Ae 2 = -2 from if_pos (by decide)) ?_
                            refine l_bipush (v := (-2)) (pc := 234) hc dL_law_234 (by decide) ?_
                            refine l_icmp_ne (pc := 236) hc dL_law_236 264 (by decide) (fun c236 => ?_) (fun c236 => ?_)
                            · exact absurd c236 (by decide)
                            · refine l_aload_n (pc := 239) hc dL_law_239 2 rfl ?_
                              refine l_bipush (v := 20) (pc := 240) hc dL_law_240 (by decide) ?_
                              refine l_q (pc := 242) hc cl_L_56 rfl [.int 20] (fun G hG9 => C_nextBase hI (kl K) G 20 Ae (200000 * e) hG9 hGe.1.1 hGe.1.2 hBe) rfl rfl (by simp [Value.category]) rfl rfl ⟨by decide, by decide⟩ dL_law_242 ?_
                              refine l_as (-1) (show qNext Ae 20 = -1 from if_pos (by decide)) ?_
                              refine l_iconst (v := (-1)) (pc := 245) hc dL_law_245 (by decide) ?_
                              refine l_icmp_ne (pc := 246) hc dL_law_246 264 (by decide) (fun c246 => ?_) (fun c246 => ?_)
                              · exact absurd c246 (by decide)
                              · refine l_aload_n (pc := 249) hc dL_law_249 2 rfl ?_
                                refine l_bipush (v := 16) (pc := 250) hc dL_law_250 (by decide) ?_
                                refine l_q (pc := 252) hc cl_L_8 rfl [.int 16] (fun G hG9 => C_count hI (kl K) G 16 Ae (200000 * e) hG9 hGe.1.1 hGe.1.2 hBe) rfl rfl (by simp [Value.category]) rfl rfl ⟨by decide, by decide⟩ dL_law_252 ?_
                                refine l_as (-2) (qc_16 Ae) ?_
                                refine l_bipush (v := (-2)) (pc := 255) hc dL_law_255 (by decide) ?_
                                refine l_icmp_ne (pc := 257) hc dL_law_257 264 (by decide) (fun c257 => ?_) (fun c257 => ?_)
                                · exact absurd c257 (by decide)
                                · refine l_iconst (v := 1) (pc := 260) hc dL_law_260 (by decide) ?_
                                  refine l_goto (pc := 261) hc dL_law_261 265 (by decide) ?_
                                  exact hret _ _ _ _ _ dL_law_265 rfl
              · have oc72 := c72
                have c72 : ¬ 130 ≤ e := fun h9 => c72 ((nI_leI (a := 130) (b := e) (by omega) (by omega)).mpr h9)
                refine l_aload_n (pc := 75) hc dL_law_75 3 rfl ?_
                refine l_iconst (v := 2) (pc := 76) hc dL_law_76 (by decide) ?_
                refine l_iload_n (pc := 77) hc dL_law_77 0 rfl ?_
                refine l_imul (pc := 78) hc dL_law_78 ?_
                refine l_as (nI (2 * e)) (pk_mul _ _) ?_
                refine l_cell (pc := 79) hI hc cl_L_114 hN hX hbl hbA (by omega) (by simp [Value.category]) ⟨by decide, by decide⟩ dL_law_79 (fun v79 => ?_)
                refine l_istore (pc := 82) (L' := [(4, .int v79), (3, .int (nI e)), (2, .ref (w.2.2 239)), (1, .ref (w.2.2 0)), (0, .ref b)]) hc dL_law_82 (by decide) rfl ?_
                refine l_aload_n (pc := 84) hc dL_law_84 3 rfl ?_
                refine l_iload (pc := 85) hc dL_law_85 0 rfl ?_
                refine l_aload_n (pc := 87) hc dL_law_87 4 rfl ?_
                refine l_iconst (v := 2) (pc := 88) hc dL_law_88 (by decide) ?_
                refine l_iload_n (pc := 89) hc dL_law_89 1 rfl ?_
                refine l_imul (pc := 90) hc dL_law_90 ?_
                refine l_as (nI (2 * e)) (pk_mul _ _) ?_
                refine l_iconst (v := 1) (pc := 91) hc dL_law_91 (by decide) ?_
                refine l_iadd (pc := 92) hc dL_law_92 ?_
                refine l_as (nI (2 * e + 1)) (nI_add _ _) ?_
                refine l_cell (pc := 93) hI hc cl_L_114 hN hX hbl hbA (by omega) (by simp [Value.category]) ⟨by decide, by decide⟩ dL_law_93 (fun v93 => ?_)
                refine l_aload_n (pc := 96) hc dL_law_96 2 rfl ?_
                refine l_sz (pc := 97) hc cl_L_118 [.ref (w.2.2 0), .int v79, .int v93, .ref (w.2.2 239)] (l_does hI (kl K) Ae De v79 v93 (200000 * e) hGe (by omega)) hZ9 rfl rfl (by simp [Value.category]) rfl rfl ⟨by decide, by decide⟩ dL_law_97 (fun r97 Aa97 Da97 q97 => ?_)
                obtain ⟨er97, hG97⟩ := q97
                subst er97
                refine l_if_eq (pc := 100) hc dL_law_100 149 (by decide) (fun c100 => ?_) (fun c100 => ?_)
                · exact absurd c100 (by decide)
                · refine l_aload_n (pc := 103) hc dL_law_103 3 rfl ?_
                  refine l_s (pc := 104) hc cl_L_96 [.ref (w.2.2 0)] (l_areDays hI (kl K) Aa97 Da97 (200000 * e + 200000) hG97 (by omega)) rfl rfl (by simp [Value.category]) rfl rfl ⟨by decide, by decide⟩ dL_law_104 (fun r104 Aa104 Da104 q104 => ?_)
                  obtain ⟨er104, eAa104, eDa104⟩ := q104
                  rw [eAa104, eDa104]
                  subst er104
                  refine l_if_eq (pc := 107) hc dL_law_107 149 (by decide) (fun c107 => ?_) (fun c107 => ?_)
                  · exact absurd c107 (by decide)
                  · refine l_iload_n (pc := 110) hc dL_law_110 1 rfl ?_
                    refine l_bipush (v := 7) (pc := 111) hc dL_law_111 (by decide) ?_
                    refine l_irem (pc := 113) hc dL_law_113 (by decide) (nI (e % 7)) (pk_rem (a := e) (d := 7) (by omega) (by omega) (by omega)) ?_
                    refine l_iconst (v := 3) (pc := 114) hc dL_law_114 (by decide) ?_
                    refine l_icmp_ne (pc := 115) hc dL_law_115 133 (by decide) (fun c115 => ?_) (fun c115 => ?_)
                    · have oc115 := c115
                      have c115 : ¬ e % 7 = 3 := fun h9 => c115 ((nI_eq (a := e % 7) (b := 3) (by omega) (by omega)).mpr h9)
                      refine l_iload_n (pc := 133) hc dL_law_133 1 rfl ?_
                      refine l_bipush (v := 25) (pc := 134) hc dL_law_134 (by decide) ?_
                      refine l_irem (pc := 136) hc dL_law_136 (by decide) (nI (e % 25)) (pk_rem (a := e) (d := 25) (by omega) (by omega) (by omega)) ?_
                      refine l_bipush (v := 19) (pc := 137) hc dL_law_137 (by decide) ?_
                      refine l_icmp_ne (pc := 139) hc dL_law_139 151 (by decide) (fun c139 => ?_) (fun c139 => ?_)
                      · have oc139 := c139
                        have c139 : ¬ e % 25 = 19 := fun h9 => c139 ((nI_eq (a := e % 25) (b := 19) (by omega) (by omega)).mpr h9)
                        refine l_iinc (pc := 151) (L' := [(3, .int (nI (e + 1))), (4, .int v79), (2, .ref (w.2.2 239)), (1, .ref (w.2.2 0)), (0, .ref b)]) hc dL_law_151 1 rfl (nI (e + 1)) (nI_1 _) (by decide) rfl ?_
                        refine l_goto (pc := 154) hc dL_law_154 68 (by decide) ?_
                        refine l_loc [0, 2, 3, 4] rfl ?_
                        exact ih68 (e + 1) Aa97 Da97 (by omega) (by omega) (LG_mono (by omega) hG97)
                      · have oc139 := c139
                        have c139 : e % 25 = 19 := (nI_eq (a := e % 25) (b := 19) (by omega) (by omega)).mp c139
                        refine l_aload_n (pc := 142) hc dL_law_142 3 rfl ?_
                        refine l_s (pc := 143) hc cl_L_122 [.ref (w.2.2 0)] (l_isBound hI (kl K) Aa97 Da97 (200000 * e + 200000) hG97 (by omega)) rfl rfl (by simp [Value.category]) rfl rfl ⟨by decide, by decide⟩ dL_law_143 (fun r143 Aa143 Da143 q143 => ?_)
                        obtain ⟨er143, eAa143, eDa143⟩ := q143
                        rw [eAa143, eDa143]
                        subst er143
                        refine l_if_ne (pc := 146) hc dL_law_146 151 (by decide) (fun c146 => ?_) (fun c146 => ?_)
                        · refine l_iinc (pc := 151) (L' := [(3, .int (nI (e + 1))), (4, .int v79), (2, .ref (w.2.2 239)), (1, .ref (w.2.2 0)), (0, .ref b)]) hc dL_law_151 1 rfl (nI (e + 1)) (nI_1 _) (by decide) rfl ?_
                          refine l_goto (pc := 154) hc dL_law_154 68 (by decide) ?_
                          refine l_loc [0, 2, 3, 4] rfl ?_
                          exact ih68 (e + 1) Aa97 Da97 (by omega) (by omega) (LG_mono (by omega) hG97)
                        · exact absurd c146 (by decide)
                    · have oc115 := c115
                      have c115 : e % 7 = 3 := (nI_eq (a := e % 7) (b := 3) (by omega) (by omega)).mp c115
                      refine l_aload_n (pc := 118) hc dL_law_118 3 rfl ?_
                      refine l_iload (pc := 119) hc dL_law_119 0 rfl ?_
                      refine l_iconst (v := 5) (pc := 121) hc dL_law_121 (by decide) ?_
                      refine l_ishr (pc := 122) hc dL_law_122 ?_
                      refine l_iconst (v := 4) (pc := 123) hc dL_law_123 (by decide) ?_
                      obtain ⟨lo, hlo, elo⟩ := low_nI (v79 >>> (5 &&& 31)) (m := 4) (by omega) (by omega)
                      refine l_s (pc := 124) hc cl_L_64 [.int (v79 >>> (5 &&& 31)), .int 4] (l_low hI (kl K) Aa97 Da97 (v79 >>> (5 &&& 31)) 4 (by decide)) rfl rfl (by simp [Value.category]) rfl rfl ⟨by decide, by decide⟩ dL_law_124 (fun r124 Aa124 Da124 q124 => ?_)
                      obtain ⟨er124, eAa124, eDa124⟩ := q124
                      rw [eAa124, eDa124]
                      subst er124
                      refine l_as (nI lo) elo ?_
                      refine l_s (pc := 127) hc cl_L_100 [.ref (w.2.2 0), .int (nI lo)] (l_areYears hI (kl K) Aa97 Da97 (200000 * e + 200000) lo hlo hG97 (by omega)) rfl rfl (by simp [Value.category]) rfl rfl ⟨by decide, by decide⟩ dL_law_127 (fun r127 Aa127 Da127 q127 => ?_)
                      obtain ⟨er127, eAa127, eDa127⟩ := q127
                      rw [eAa127, eDa127]
                      subst er127
                      refine l_if_eq (pc := 130) hc dL_law_130 149 (by decide) (fun c130 => ?_) (fun c130 => ?_)
                      · exact absurd c130 (by decide)
                      · refine l_iload_n (pc := 133) hc dL_law_133 1 rfl ?_
                        refine l_bipush (v := 25) (pc := 134) hc dL_law_134 (by decide) ?_
                        refine l_irem (pc := 136) hc dL_law_136 (by decide) (nI (e % 25)) (pk_rem (a := e) (d := 25) (by omega) (by omega) (by omega)) ?_
                        refine l_bipush (v := 19) (pc := 137) hc dL_law_137 (by decide) ?_
                        refine l_icmp_ne (pc := 139) hc dL_law_139 151 (by decide) (fun c139_1 => ?_) (fun c139_1 => ?_)
                        · have oc139_1 := c139_1
                          have c139_1 : ¬ e % 25 = 19 := fun h9 => c139_1 ((nI_eq (a := e % 25) (b := 19) (by omega) (by omega)).mpr h9)
                          refine l_iinc (pc := 151) (L' := [(3, .int (nI (e + 1))), (4, .int v79), (2, .ref (w.2.2 239)), (1, .ref (w.2.2 0)), (0, .ref b)]) hc dL_law_151 1 rfl (nI (e + 1)) (nI_1 _) (by decide) rfl ?_
                          refine l_goto (pc := 154) hc dL_law_154 68 (by decide) ?_
                          refine l_loc [0, 2, 3, 4] rfl ?_
                          exact ih68 (e + 1) Aa97 Da97 (by omega) (by omega) (LG_mono (by omega) hG97)
                        · have oc139_1 := c139_1
                          have c139_1 : e % 25 = 19 := (nI_eq (a := e % 25) (b := 19) (by omega) (by omega)).mp c139_1
                          refine l_aload_n (pc := 142) hc dL_law_142 3 rfl ?_
                          refine l_s (pc := 143) hc cl_L_122 [.ref (w.2.2 0)] (l_isBound hI (kl K) Aa97 Da97 (200000 * e + 200000) hG97 (by omega)) rfl rfl (by simp [Value.category]) rfl rfl ⟨by decide, by decide⟩ dL_law_143 (fun r143_1 Aa143_1 Da143_1 q143_1 => ?_)
                          obtain ⟨er143_1, eAa143_1, eDa143_1⟩ := q143_1
                          rw [eAa143_1, eDa143_1]
                          subst er143_1
                          refine l_if_ne (pc := 146) hc dL_law_146 151 (by decide) (fun c146_1 => ?_) (fun c146_1 => ?_)
                          · refine l_iinc (pc := 151) (L' := [(3, .int (nI (e + 1))), (4, .int v79), (2, .ref (w.2.2 239)), (1, .ref (w.2.2 0)), (0, .ref b)]) hc dL_law_151 1 rfl (nI (e + 1)) (nI_1 _) (by decide) rfl ?_
                            refine l_goto (pc := 154) hc dL_law_154 68 (by decide) ?_
                            refine l_loc [0, 2, 3, 4] rfl ?_
                            exact ih68 (e + 1) Aa97 Da97 (by omega) (by omega) (LG_mono (by omega) hG97)
                          · exact absurd c146_1 (by decide)
          refine l_loc [0, 1, 2, 3] rfl ?_
          exact loop68 131 0 A0 D (by omega) (by omega) LG_0
        · exact absurd (by decide) c61
