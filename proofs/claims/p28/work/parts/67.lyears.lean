set_option maxHeartbeats 4000000 in
set_option maxRecDepth 100000 in
theorem l_areYears {w : WT} (hI : xI w) (l : Launch) (A : AT) (D : Nat → Int32) (B : Nat) (a : Nat) (ha4 : a < 4) (hG : LG A B) (hB : B + 1 < 2 ^ 30) : LMi w l yL_areYears cL_areYears 9 (some .boolean) ⟨3, 0, 0, 81⟩ [.ref (w.2.2 0), .int (nI a)] A D (fun r A' D' => r = 1 ∧ A' = A ∧ D' = D) := by
  refine mk_l (L0 := [(0, .ref (w.2.2 0)), (1, .int (nI a))]) hI (by decide +kernel) rfl (Nat.le_of_ble_eq_true rfl) (fun v A9 D9 h => by rw [h.1]; rfl) (fun K hc hret => ?_)
  have hV := hG.1.1
  have hZ := hG.1.2
  obtain ⟨hd, e300⟩ := hV.2.1.1
  obtain ⟨hyB, e301, e302⟩ := hV.2.1.2.1
  obtain ⟨hr9, e303⟩ := hV.2.1.2.2.1
  obtain ⟨hc5, e307, hfe⟩ := hV.2.1.2.2.2.2.1
  have hk4 := kN4 (aF A)
  refine l_aload_n (pc := 0) hc dL_areYears_0 0 rfl ?_
  refine l_bipush (v := 12) (pc := 1) hc dL_areYears_1 (by decide) ?_
  refine l_q (pc := 3) hc cl_L_8 rfl [.int 12] (fun G hG9 => C_count hI (kl K) G 12 A B hG9 hV hZ hB) rfl rfl (by simp [Value.category]) rfl rfl ⟨by decide, by decide⟩ dL_areYears_3 ?_
  refine l_as (nI (rN (aF A)) + 1000) ((qc_12 A).trans (congrArg (· + 1000) e303)) ?_
  refine l_sipush (v := 1000) (pc := 6) hc dL_areYears_6 (by decide) ?_
  refine l_isub (pc := 9) hc dL_areYears_9 ?_
  refine l_as (nI (rN (aF A))) (i32_ac _ _) ?_
  refine l_istore_n (pc := 10) (L' := [(2, .int (nI (rN (aF A)))), (0, .ref (w.2.2 0)), (1, .int (nI a))]) hc dL_areYears_10 (by decide) rfl ?_
  refine l_iload_n (pc := 11) hc dL_areYears_11 2 rfl ?_
  refine l_aload_n (pc := 12) hc dL_areYears_12 1 rfl ?_
  refine l_iconst (v := 2) (pc := 13) hc dL_areYears_13 (by decide) ?_
  refine l_q (pc := 14) hc cl_L_8 rfl [.int 2] (fun G hG9 => C_count hI (kl K) G 2 A B hG9 hV hZ hB) rfl rfl (by simp [Value.category]) rfl rfl ⟨by decide, by decide⟩ dL_areYears_14 ?_
  refine l_as (nI (kN (aF A))) ((qc_2 A).trans e302) ?_
  refine l_icmp_lt (pc := 17) hc dL_areYears_17 77 (by decide) (fun c17 => ?_) (fun c17 => ?_)
  · have oc17 := c17
    have c17 : a < kN (aF A) := (nI_ltI (a := a) (b := kN (aF A)) (by omega) (by omega)).mp c17
    refine l_iconst (v := 0) (pc := 77) hc dL_areYears_77 (by decide) ?_
    refine l_istore_n (pc := 78) (L' := [(3, .int 0), (2, .int (nI (rN (aF A)))), (0, .ref (w.2.2 0)), (1, .int (nI a))]) hc dL_areYears_78 (by decide) rfl ?_
    refine l_iconst (v := 0) (pc := 79) hc dL_areYears_79 (by decide) ?_
    refine l_istore (pc := 80) (L' := [(4, .int 0), (3, .int 0), (2, .int (nI (rN (aF A)))), (0, .ref (w.2.2 0)), (1, .int (nI a))]) hc dL_areYears_80 (by decide) rfl ?_
    have loop82 : ∀ (n82 : Nat) (day : Nat), day ≤ 20 → 21 ≤ day + n82 → LX w K 9 A D 82 [(4, .int (nI day)), (3, .int (sSum (okM (aF A) a) day)), (2, .int (nI (rN (aF A)))), (1, .int (nI a)), (0, .ref (w.2.2 0))] [] := by
      intro n82
      induction n82 with
      | zero => intro day hk hn; omega
      | succ n82 ih82 =>
        intro day hk hn
        refine l_iload (pc := 82) hc dL_areYears_82 0 rfl ?_
        refine l_bipush (v := 20) (pc := 84) hc dL_areYears_84 (by decide) ?_
        refine l_icmp_ge (pc := 86) hc dL_areYears_86 296 (by decide) (fun c86 => ?_) (fun c86 => ?_)
        · have oc86 := c86
          have c86 : 20 ≤ day := (nI_leI (a := 20) (b := day) (by omega) (by omega)).mp c86
          refine l_iload_n (pc := 296) hc dL_areYears_296 3 rfl ?_
          refine l_if_gt (pc := 297) hc dL_areYears_297 310 (by decide) (fun c297 => ?_) (fun c297 => ?_)
          · have oc297 := c297
            have c297 : 0 < a := (nI_ltI (a := 0) (b := a) (by omega) (by omega)).mp c297
            refine l_iconst (v := 1) (pc := 310) hc dL_areYears_310 (by decide) ?_
            refine l_goto (pc := 311) hc dL_areYears_311 315 (by decide) ?_
            exact hret _ _ _ _ _ dL_areYears_315 ⟨rfl, rfl, rfl⟩
          · have oc297 := c297
            have c297 : ¬ 0 < a := fun h9 => c297 ((nI_ltI (a := 0) (b := a) (by omega) (by omega)).mpr h9)
            refine l_aload_n (pc := 300) hc dL_areYears_300 4 rfl ?_
            refine l_bipush (v := 8) (pc := 301) hc dL_areYears_301 (by decide) ?_
            refine l_q (pc := 303) hc cl_L_8 rfl [.int 8] (fun G hG9 => C_count hI (kl K) G 8 A B hG9 hV hZ hB) rfl rfl (by simp [Value.category]) rfl rfl ⟨by decide, by decide⟩ dL_areYears_303 ?_
            refine l_as (sSum (okM (aF A) 0) 20) (qc8_1 hV (by omega)) ?_
            refine l_iload_n (pc := 306) hc dL_areYears_306 1 rfl ?_
            refine l_icmp_ne (pc := 307) hc dL_areYears_307 314 (by decide) (fun c307 => ?_) (fun c307 => ?_)
            · exact absurd (by rw [show a = 0 by omega, show day = 20 by omega]) c307
            · refine l_iconst (v := 1) (pc := 310) hc dL_areYears_310 (by decide) ?_
              refine l_goto (pc := 311) hc dL_areYears_311 315 (by decide) ?_
              exact hret _ _ _ _ _ dL_areYears_315 ⟨rfl, rfl, rfl⟩
        · have oc86 := c86
          have c86 : ¬ 20 ≤ day := fun h9 => c86 ((nI_leI (a := 20) (b := day) (by omega) (by omega)).mpr h9)
          refine l_iconst (v := 0) (pc := 89) hc dL_areYears_89 (by decide) ?_
          refine l_istore (pc := 90) (L' := [(5, .int 0), (4, .int (nI day)), (3, .int (sSum (okM (aF A) a) day)), (2, .int (nI (rN (aF A)))), (1, .int (nI a)), (0, .ref (w.2.2 0))]) hc dL_areYears_90 (by decide) rfl ?_
          refine l_iconst (v := 0) (pc := 92) hc dL_areYears_92 (by decide) ?_
          refine l_istore (pc := 93) (L' := [(6, .int 0), (5, .int 0), (4, .int (nI day)), (3, .int (sSum (okM (aF A) a) day)), (2, .int (nI (rN (aF A)))), (1, .int (nI a)), (0, .ref (w.2.2 0))]) hc dL_areYears_93 (by decide) rfl ?_
          refine l_iconst (v := 0) (pc := 95) hc dL_areYears_95 (by decide) ?_
          refine l_istore (pc := 96) (L' := [(7, .int 0), (6, .int 0), (5, .int 0), (4, .int (nI day)), (3, .int (sSum (okM (aF A) a) day)), (2, .int (nI (rN (aF A)))), (1, .int (nI a)), (0, .ref (w.2.2 0))]) hc dL_areYears_96 (by decide) rfl ?_
          have loop98 : ∀ (n98 : Nat) (k : Nat), k ≤ 20 → 21 ≤ k + n98 → LX w K 9 A D 98 [(7, .int (nI k)), (6, .int (nI (mCnt day (rN (aF A)) k))), (5, .int (mSum (okM (aF A) a) day (rN (aF A)) k)), (4, .int (nI day)), (3, .int (sSum (okM (aF A) a) day)), (2, .int (nI (rN (aF A)))), (1, .int (nI a)), (0, .ref (w.2.2 0))] [] := by
            intro n98
            induction n98 with
            | zero => intro k hk2 hn2; omega
            | succ n98 ih98 =>
              intro k hk2 hn2
              refine l_iload (pc := 98) hc dL_areYears_98 0 rfl ?_
              refine l_bipush (v := 20) (pc := 100) hc dL_areYears_100 (by decide) ?_
              refine l_icmp_ge (pc := 102) hc dL_areYears_102 171 (by decide) (fun c102 => ?_) (fun c102 => ?_)
              · have oc102 := c102
                have c102 : 20 ≤ k := (nI_leI (a := 20) (b := k) (by omega) (by omega)).mp c102
                refine l_iload_n (pc := 171) hc dL_areYears_171 4 rfl ?_
                refine l_aload_n (pc := 172) hc dL_areYears_172 7 rfl ?_
                refine l_iload_n (pc := 173) hc dL_areYears_173 6 rfl ?_
                refine l_iload (pc := 174) hc dL_areYears_174 3 rfl ?_
                refine l_iconst (v := 1) (pc := 176) hc dL_areYears_176 (by decide) ?_
                refine l_q (pc := 177) hc cl_L_29 rfl [.int (nI a), .int (nI day), .int 1] (fun G hG9 => C_past hI (kl K) G (nI a) (nI day) 1 A B hG9 hV hZ hB) rfl rfl (by simp [Value.category]) rfl rfl ⟨by decide, by decide⟩ dL_areYears_177 ?_
                refine l_as (okM (aF A) a day + 1000) (qp_1 A (by omega) (by omega)) ?_
                refine l_sipush (v := 1000) (pc := 180) hc dL_areYears_180 (by decide) ?_
                refine l_isub (pc := 183) hc dL_areYears_183 ?_
                refine l_as (okM (aF A) a day) (i32_ac _ _) ?_
                refine l_s (pc := 184) hc cl_L_26 [.int (okM (aF A) a day)] (l_size hI (kl K) A D (okM (aF A) a day)) rfl rfl (by simp [Value.category]) rfl rfl ⟨by decide, by decide⟩ dL_areYears_184 (fun r184 Aa184 Da184 q184 => ?_)
                obtain ⟨er184, eAa184, eDa184⟩ := q184
                rw [eAa184, eDa184]
                subst er184
                refine l_iadd (pc := 187) hc dL_areYears_187 ?_
                refine l_istore_n (pc := 188) (L' := [(3, .int ((sSum (okM (aF A) a) day) + (szI (okM (aF A) a day)))), (7, .int (nI k)), (6, .int (nI (mCnt day (rN (aF A)) k))), (5, .int (mSum (okM (aF A) a) day (rN (aF A)) k)), (4, .int (nI day)), (2, .int (nI (rN (aF A)))), (1, .int (nI a)), (0, .ref (w.2.2 0))]) hc dL_areYears_188 (by decide) rfl ?_
                refine l_aload_n (pc := 189) hc dL_areYears_189 7 rfl ?_
                refine l_iload_n (pc := 190) hc dL_areYears_190 6 rfl ?_
                refine l_iload (pc := 191) hc dL_areYears_191 4 rfl ?_
                refine l_iconst (v := 0) (pc := 193) hc dL_areYears_193 (by decide) ?_
                refine l_q (pc := 194) hc cl_L_29 rfl [.int (nI a), .int (nI day), .int 0] (fun G hG9 => C_past hI (kl K) G (nI a) (nI day) 0 A B hG9 hV hZ hB) rfl rfl (by simp [Value.category]) rfl rfl ⟨by decide, by decide⟩ dL_areYears_194 ?_
                refine l_as (aF A (60 + 60 * a + day) + 1000) (qp_0 A (by omega) (by omega)) ?_
                refine l_sipush (v := 1000) (pc := 197) hc dL_areYears_197 (by decide) ?_
                refine l_isub (pc := 200) hc dL_areYears_200 ?_
                refine l_as (aF A (60 + 60 * a + day)) (i32_ac _ _) ?_
                refine l_istore (pc := 201) (L' := [(7, .int (aF A (60 + 60 * a + day))), (3, .int ((sSum (okM (aF A) a) day) + (szI (okM (aF A) a day)))), (6, .int (nI (mCnt day (rN (aF A)) k))), (5, .int (mSum (okM (aF A) a) day (rN (aF A)) k)), (4, .int (nI day)), (2, .int (nI (rN (aF A)))), (1, .int (nI a)), (0, .ref (w.2.2 0))]) hc dL_areYears_201 (by decide) rfl ?_
                refine l_iload (pc := 203) hc dL_areYears_203 0 rfl ?_
                refine l_aload_n (pc := 205) hc dL_areYears_205 7 rfl ?_
                refine l_iload_n (pc := 206) hc dL_areYears_206 6 rfl ?_
                refine l_iload (pc := 207) hc dL_areYears_207 4 rfl ?_
                refine l_iconst (v := 1) (pc := 209) hc dL_areYears_209 (by decide) ?_
                refine l_q (pc := 210) hc cl_L_29 rfl [.int (nI a), .int (nI day), .int 1] (fun G hG9 => C_past hI (kl K) G (nI a) (nI day) 1 A B hG9 hV hZ hB) rfl rfl (by simp [Value.category]) rfl rfl ⟨by decide, by decide⟩ dL_areYears_210 ?_
                refine l_as (okM (aF A) a day + 1000) (qp_1 A (by omega) (by omega)) ?_
                refine l_sipush (v := 1000) (pc := 213) hc dL_areYears_213 (by decide) ?_
                refine l_isub (pc := 216) hc dL_areYears_216 ?_
                refine l_as (okM (aF A) a day) (i32_ac _ _) ?_
                refine l_isub (pc := 217) hc dL_areYears_217 ?_
                refine l_istore (pc := 218) (L' := [(8, .int ((aF A (60 + 60 * a + day)) - (okM (aF A) a day))), (7, .int (aF A (60 + 60 * a + day))), (3, .int ((sSum (okM (aF A) a) day) + (szI (okM (aF A) a day)))), (6, .int (nI (mCnt day (rN (aF A)) k))), (5, .int (mSum (okM (aF A) a) day (rN (aF A)) k)), (4, .int (nI day)), (2, .int (nI (rN (aF A)))), (1, .int (nI a)), (0, .ref (w.2.2 0))]) hc dL_areYears_218 (by decide) rfl ?_
                refine l_aload_n (pc := 220) hc dL_areYears_220 8 rfl ?_
                refine l_iload_n (pc := 221) hc dL_areYears_221 7 rfl ?_
                refine l_iload (pc := 222) hc dL_areYears_222 5 rfl ?_
                refine l_iconst (v := 0) (pc := 224) hc dL_areYears_224 (by decide) ?_
                refine l_q (pc := 225) hc cl_L_33 rfl [.int (nI a), .int (nI day), .int 0] (fun G hG9 => C_mean hI (kl K) G (nI a) (nI day) 0 A B hG9 hV hZ hB) rfl rfl (by simp [Value.category]) rfl rfl ⟨by decide, by decide⟩ dL_areYears_225 ?_
                refine l_as (mean (okM (aF A) a) day (rN (aF A)) + 1000) (qm_0 A (by omega) (by omega)) ?_
                refine l_iload (pc := 228) hc dL_areYears_228 4 rfl ?_
                refine l_iload (pc := 230) hc dL_areYears_230 3 rfl ?_
                refine l_idiv (pc := 232) hc dL_areYears_232 (cnt_nz (by omega) (by omega)) ?_
                refine l_as (mean (okM (aF A) a) day (rN (aF A))) (mean_k (by omega)) ?_
                refine l_sipush (v := 1000) (pc := 233) hc dL_areYears_233 (by decide) ?_
                refine l_iadd (pc := 236) hc dL_areYears_236 ?_
                refine l_icmp_ne (pc := 237) hc dL_areYears_237 288 (by decide) (fun c237 => ?_) (fun c237 => ?_)
                · exact absurd rfl c237
                · refine l_aload_n (pc := 240) hc dL_areYears_240 8 rfl ?_
                  refine l_iload_n (pc := 241) hc dL_areYears_241 7 rfl ?_
                  refine l_iload (pc := 242) hc dL_areYears_242 5 rfl ?_
                  refine l_iconst (v := 1) (pc := 244) hc dL_areYears_244 (by decide) ?_
                  refine l_q (pc := 245) hc cl_L_33 rfl [.int (nI a), .int (nI day), .int 1] (fun G hG9 => C_mean hI (kl K) G (nI a) (nI day) 1 A B hG9 hV hZ hB) rfl rfl (by simp [Value.category]) rfl rfl ⟨by decide, by decide⟩ dL_areYears_245 ?_
                  refine l_as (mean (okM (aF A) a) day (rN (aF A)) + 1000) (qm_1 A (by omega) (by omega)) ?_
                  refine l_iload (pc := 248) hc dL_areYears_248 4 rfl ?_
                  refine l_iload (pc := 250) hc dL_areYears_250 3 rfl ?_
                  refine l_idiv (pc := 252) hc dL_areYears_252 (cnt_nz (by omega) (by omega)) ?_
                  refine l_as (mean (okM (aF A) a) day (rN (aF A))) (mean_k (by omega)) ?_
                  refine l_sipush (v := 1000) (pc := 253) hc dL_areYears_253 (by decide) ?_
                  refine l_iadd (pc := 256) hc dL_areYears_256 ?_
                  refine l_icmp_ne (pc := 257) hc dL_areYears_257 288 (by decide) (fun c257 => ?_) (fun c257 => ?_)
                  · exact absurd rfl c257
                  · refine l_iload (pc := 260) hc dL_areYears_260 1 rfl ?_
                    refine l_bipush (v := (-40)) (pc := 262) hc dL_areYears_262 (by decide) ?_
                    refine l_icmp_lt (pc := 264) hc dL_areYears_264 288 (by decide) (fun c264 => ?_) (fun c264 => ?_)
                    · exact absurd c264 (r_lo (hG.2.2 a (by omega) day (by omega)).1)
                    · refine l_iload (pc := 267) hc dL_areYears_267 1 rfl ?_
                      refine l_bipush (v := 40) (pc := 269) hc dL_areYears_269 (by decide) ?_
                      refine l_icmp_gt (pc := 271) hc dL_areYears_271 288 (by decide) (fun c271 => ?_) (fun c271 => ?_)
                      · exact absurd c271 (r_hi (hG.2.2 a (by omega) day (by omega)).1)
                      · refine l_iload (pc := 274) hc dL_areYears_274 0 rfl ?_
                        refine l_bipush (v := (-40)) (pc := 276) hc dL_areYears_276 (by decide) ?_
                        refine l_icmp_lt (pc := 278) hc dL_areYears_278 288 (by decide) (fun c278 => ?_) (fun c278 => ?_)
                        · exact absurd c278 (r_lo (hG.2.2 a (by omega) day (by omega)).2)
                        · refine l_iload (pc := 281) hc dL_areYears_281 0 rfl ?_
                          refine l_bipush (v := 40) (pc := 283) hc dL_areYears_283 (by decide) ?_
                          refine l_icmp_le (pc := 285) hc dL_areYears_285 290 (by decide) (fun c285 => ?_) (fun c285 => ?_)
                          · refine l_iinc (pc := 290) (L' := [(4, .int (nI (day + 1))), (8, .int ((aF A (60 + 60 * a + day)) - (okM (aF A) a day))), (7, .int (aF A (60 + 60 * a + day))), (3, .int ((sSum (okM (aF A) a) day) + (szI (okM (aF A) a day)))), (6, .int (nI (mCnt day (rN (aF A)) k))), (5, .int (mSum (okM (aF A) a) day (rN (aF A)) k)), (2, .int (nI (rN (aF A)))), (1, .int (nI a)), (0, .ref (w.2.2 0))]) hc dL_areYears_290 5 rfl (nI (day + 1)) (nI_1 _) (by decide) rfl ?_
                            refine l_goto (pc := 293) hc dL_areYears_293 82 (by decide) ?_
                            refine l_loc [0, 3, 6, 7, 8] rfl ?_
                            exact ih82 (day + 1) (by omega) (by omega)
                          · exact absurd (r_le (hG.2.2 a (by omega) day (by omega)).2) c285
              · have oc102 := c102
                have c102 : ¬ 20 ≤ k := fun h9 => c102 ((nI_leI (a := 20) (b := k) (by omega) (by omega)).mpr h9)
                refine l_iload (pc := 105) hc dL_areYears_105 0 rfl ?_
                refine l_iload (pc := 107) hc dL_areYears_107 3 rfl ?_
                refine l_isub (pc := 109) hc dL_areYears_109 ?_
                refine l_s (pc := 110) hc cl_L_26 [.int ((nI k) - (nI day))] (l_size hI (kl K) A D ((nI k) - (nI day))) rfl rfl (by simp [Value.category]) rfl rfl ⟨by decide, by decide⟩ dL_areYears_110 (fun r110 Aa110 Da110 q110 => ?_)
                obtain ⟨er110, eAa110, eDa110⟩ := q110
                rw [eAa110, eDa110]
                subst er110
                refine l_iload_n (pc := 113) hc dL_areYears_113 5 rfl ?_
                have j122 : ∀ v122 : Int32, v122 = (if (nI (rN (aF A))) < (szI ((nI k) - (nI day))) then 0 else 1) → LX w K 9 A D 122 [(7, .int (nI k)), (6, .int (nI (mCnt day (rN (aF A)) k))), (5, .int (mSum (okM (aF A) a) day (rN (aF A)) k)), (4, .int (nI day)), (3, .int (sSum (okM (aF A) a) day)), (2, .int (nI (rN (aF A)))), (1, .int (nI a)), (0, .ref (w.2.2 0))] [.int v122] := by
                  intro v122 hv122
                  refine l_as (b01 (day ≤ k + rN (aF A) ∧ k ≤ day + rN (aF A))) (hv122.trans (reach_b (by omega) (by omega) (by omega))) ?_
                  refine l_istore (pc := 122) (L' := [(8, .int (b01 (day ≤ k + rN (aF A) ∧ k ≤ day + rN (aF A)))), (7, .int (nI k)), (6, .int (nI (mCnt day (rN (aF A)) k))), (5, .int (mSum (okM (aF A) a) day (rN (aF A)) k)), (4, .int (nI day)), (3, .int (sSum (okM (aF A) a) day)), (2, .int (nI (rN (aF A)))), (1, .int (nI a)), (0, .ref (w.2.2 0))]) hc dL_areYears_122 (by decide) rfl ?_
                  refine l_iload (pc := 124) hc dL_areYears_124 3 rfl ?_
                  refine l_iload (pc := 126) hc dL_areYears_126 0 rfl ?_
                  have j147 : ∀ v147 : Int32, v147 = (if (b01 (day ≤ k + rN (aF A) ∧ k ≤ day + rN (aF A))) = 0 then 0 else (okM (aF A) a k)) → LX w K 9 A D 147 [(8, .int (b01 (day ≤ k + rN (aF A) ∧ k ≤ day + rN (aF A)))), (7, .int (nI k)), (6, .int (nI (mCnt day (rN (aF A)) k))), (5, .int (mSum (okM (aF A) a) day (rN (aF A)) k)), (4, .int (nI day)), (3, .int (sSum (okM (aF A) a) day)), (2, .int (nI (rN (aF A)))), (1, .int (nI a)), (0, .ref (w.2.2 0))] [.int v147, .int (mSum (okM (aF A) a) day (rN (aF A)) k)] := by
                    intro v147 hv147
                    refine l_as (if day ≤ k + rN (aF A) ∧ k ≤ day + rN (aF A) then okM (aF A) a k else 0) (hv147.trans (b01_if _ _)) ?_
                    refine l_iadd (pc := 147) hc dL_areYears_147 ?_
                    refine l_istore (pc := 148) (L' := [(5, .int ((mSum (okM (aF A) a) day (rN (aF A)) k) + (if day ≤ k + rN (aF A) ∧ k ≤ day + rN (aF A) then okM (aF A) a k else 0))), (8, .int (b01 (day ≤ k + rN (aF A) ∧ k ≤ day + rN (aF A)))), (7, .int (nI k)), (6, .int (nI (mCnt day (rN (aF A)) k))), (4, .int (nI day)), (3, .int (sSum (okM (aF A) a) day)), (2, .int (nI (rN (aF A)))), (1, .int (nI a)), (0, .ref (w.2.2 0))]) hc dL_areYears_148 (by decide) rfl ?_
                    refine l_iload (pc := 150) hc dL_areYears_150 3 rfl ?_
                    refine l_iload (pc := 152) hc dL_areYears_152 1 rfl ?_
                    have j162 : ∀ v162 : Int32, v162 = (if (b01 (day ≤ k + rN (aF A) ∧ k ≤ day + rN (aF A))) = 0 then 0 else 1) → LX w K 9 A D 162 [(5, .int ((mSum (okM (aF A) a) day (rN (aF A)) k) + (if day ≤ k + rN (aF A) ∧ k ≤ day + rN (aF A) then okM (aF A) a k else 0))), (8, .int (b01 (day ≤ k + rN (aF A) ∧ k ≤ day + rN (aF A)))), (7, .int (nI k)), (6, .int (nI (mCnt day (rN (aF A)) k))), (4, .int (nI day)), (3, .int (sSum (okM (aF A) a) day)), (2, .int (nI (rN (aF A)))), (1, .int (nI a)), (0, .ref (w.2.2 0))] [.int v162, .int (nI (mCnt day (rN (aF A)) k))] := by
                      intro v162 hv162
                      refine l_as (b01 (day ≤ k + rN (aF A) ∧ k ≤ day + rN (aF A))) (hv162.trans (b01_01 _)) ?_
                      refine l_iadd (pc := 162) hc dL_areYears_162 ?_
                      refine l_as (nI (mCnt day (rN (aF A)) (k + 1))) cnt_1 ?_
                      refine l_istore (pc := 163) (L' := [(6, .int (nI (mCnt day (rN (aF A)) (k + 1)))), (5, .int ((mSum (okM (aF A) a) day (rN (aF A)) k) + (if day ≤ k + rN (aF A) ∧ k ≤ day + rN (aF A) then okM (aF A) a k else 0))), (8, .int (b01 (day ≤ k + rN (aF A) ∧ k ≤ day + rN (aF A)))), (7, .int (nI k)), (4, .int (nI day)), (3, .int (sSum (okM (aF A) a) day)), (2, .int (nI (rN (aF A)))), (1, .int (nI a)), (0, .ref (w.2.2 0))]) hc dL_areYears_163 (by decide) rfl ?_
                      refine l_iinc (pc := 165) (L' := [(7, .int (nI (k + 1))), (6, .int (nI (mCnt day (rN (aF A)) (k + 1)))), (5, .int ((mSum (okM (aF A) a) day (rN (aF A)) k) + (if day ≤ k + rN (aF A) ∧ k ≤ day + rN (aF A) then okM (aF A) a k else 0))), (8, .int (b01 (day ≤ k + rN (aF A) ∧ k ≤ day + rN (aF A)))), (4, .int (nI day)), (3, .int (sSum (okM (aF A) a) day)), (2, .int (nI (rN (aF A)))), (1, .int (nI a)), (0, .ref (w.2.2 0))]) hc dL_areYears_165 3 rfl (nI (k + 1)) (nI_1 _) (by decide) rfl ?_
                      refine l_goto (pc := 168) hc dL_areYears_168 98 (by decide) ?_
                      refine l_loc [0, 1, 2, 4, 5, 6, 7, 8] rfl ?_
                      exact ih98 (k + 1) (by omega) (by omega)
                    refine l_if_eq (pc := 154) hc dL_areYears_154 161 (by decide) (fun c154 => ?_) (fun c154 => ?_)
                    · refine l_iconst (v := 0) (pc := 161) hc dL_areYears_161 (by decide) ?_
                      exact j162 _ (by rw [if_pos c154])
                    · refine l_iconst (v := 1) (pc := 157) hc dL_areYears_157 (by decide) ?_
                      refine l_goto (pc := 158) hc dL_areYears_158 162 (by decide) ?_
                      exact j162 _ (by rw [if_neg c154])
                  refine l_if_eq (pc := 128) hc dL_areYears_128 146 (by decide) (fun c128 => ?_) (fun c128 => ?_)
                  · refine l_iconst (v := 0) (pc := 146) hc dL_areYears_146 (by decide) ?_
                    exact j147 _ (by rw [if_pos c128])
                  · refine l_aload_n (pc := 131) hc dL_areYears_131 8 rfl ?_
                    refine l_iload_n (pc := 132) hc dL_areYears_132 7 rfl ?_
                    refine l_iload (pc := 133) hc dL_areYears_133 1 rfl ?_
                    refine l_iconst (v := 1) (pc := 135) hc dL_areYears_135 (by decide) ?_
                    refine l_q (pc := 136) hc cl_L_29 rfl [.int (nI a), .int (nI k), .int 1] (fun G hG9 => C_past hI (kl K) G (nI a) (nI k) 1 A B hG9 hV hZ hB) rfl rfl (by simp [Value.category]) rfl rfl ⟨by decide, by decide⟩ dL_areYears_136 ?_
                    refine l_as (okM (aF A) a k + 1000) (qp_1 A (by omega) (by omega)) ?_
                    refine l_sipush (v := 1000) (pc := 139) hc dL_areYears_139 (by decide) ?_
                    refine l_isub (pc := 142) hc dL_areYears_142 ?_
                    refine l_as (okM (aF A) a k) (i32_ac _ _) ?_
                    refine l_goto (pc := 143) hc dL_areYears_143 147 (by decide) ?_
                    exact j147 _ (by rw [if_neg c128])
                refine l_icmp_gt (pc := 114) hc dL_areYears_114 121 (by decide) (fun c114 => ?_) (fun c114 => ?_)
                · refine l_iconst (v := 0) (pc := 121) hc dL_areYears_121 (by decide) ?_
                  exact j122 _ (by rw [if_pos c114])
                · refine l_iconst (v := 1) (pc := 117) hc dL_areYears_117 (by decide) ?_
                  refine l_goto (pc := 118) hc dL_areYears_118 122 (by decide) ?_
                  exact j122 _ (by rw [if_neg c114])
          refine l_loc [0, 1, 2, 3, 4, 5, 6, 7] rfl ?_
          exact loop98 21 0 (by omega) (by omega)
    refine l_loc [0, 1, 2, 4, 3] rfl ?_
    exact loop82 21 0 (by omega) (by omega)
  · have oc17 := c17
    have c17 : ¬ a < kN (aF A) := fun h9 => c17 ((nI_ltI (a := a) (b := kN (aF A)) (by omega) (by omega)).mpr h9)
    refine l_aload_n (pc := 20) hc dL_areYears_20 1 rfl ?_
    refine l_iload_n (pc := 21) hc dL_areYears_21 2 rfl ?_
    refine l_iconst (v := 0) (pc := 22) hc dL_areYears_22 (by decide) ?_
    refine l_iconst (v := 0) (pc := 23) hc dL_areYears_23 (by decide) ?_
    refine l_q (pc := 24) hc cl_L_29 rfl [.int (nI a), .int 0, .int 0] (fun G hG9 => C_past hI (kl K) G (nI a) 0 0 A B hG9 hV hZ hB) rfl rfl (by simp [Value.category]) rfl rfl ⟨by decide, by decide⟩ dL_areYears_24 ?_
    refine l_as (-1) (qp_out A (by omega) (by omega) 0 0) ?_
    refine l_iconst (v := (-1)) (pc := 27) hc dL_areYears_27 (by decide) ?_
    refine l_icmp_ne (pc := 28) hc dL_areYears_28 75 (by decide) (fun c28 => ?_) (fun c28 => ?_)
    · exact absurd c28 (by decide)
    · refine l_aload_n (pc := 31) hc dL_areYears_31 1 rfl ?_
      refine l_iload_n (pc := 32) hc dL_areYears_32 2 rfl ?_
      refine l_iconst (v := 0) (pc := 33) hc dL_areYears_33 (by decide) ?_
      refine l_iconst (v := 1) (pc := 34) hc dL_areYears_34 (by decide) ?_
      refine l_q (pc := 35) hc cl_L_33 rfl [.int (nI a), .int 0, .int 1] (fun G hG9 => C_mean hI (kl K) G (nI a) 0 1 A B hG9 hV hZ hB) rfl rfl (by simp [Value.category]) rfl rfl ⟨by decide, by decide⟩ dL_areYears_35 ?_
      refine l_as (-1) (qm_out A (by omega) (by omega) 0 1) ?_
      refine l_iconst (v := (-1)) (pc := 38) hc dL_areYears_38 (by decide) ?_
      refine l_icmp_ne (pc := 39) hc dL_areYears_39 75 (by decide) (fun c39 => ?_) (fun c39 => ?_)
      · exact absurd c39 (by decide)
      · refine l_aload_n (pc := 42) hc dL_areYears_42 1 rfl ?_
        refine l_iconst (v := 2) (pc := 43) hc dL_areYears_43 (by decide) ?_
        refine l_q (pc := 44) hc cl_L_8 rfl [.int 2] (fun G hG9 => C_count hI (kl K) G 2 A B hG9 hV hZ hB) rfl rfl (by simp [Value.category]) rfl rfl ⟨by decide, by decide⟩ dL_areYears_44 ?_
        refine l_as (nI (kN (aF A))) ((qc_2 A).trans e302) ?_
        refine l_if_gt (pc := 47) hc dL_areYears_47 71 (by decide) (fun c47 => ?_) (fun c47 => ?_)
        · have oc47 := c47
          have c47 : 0 < kN (aF A) := (nI_ltI (a := 0) (b := kN (aF A)) (by omega) (by omega)).mp c47
          refine l_iconst (v := 1) (pc := 71) hc dL_areYears_71 (by decide) ?_
          refine l_goto (pc := 72) hc dL_areYears_72 76 (by decide) ?_
          exact hret _ _ _ _ _ dL_areYears_76 ⟨rfl, rfl, rfl⟩
        · have oc47 := c47
          have c47 : ¬ 0 < kN (aF A) := fun h9 => c47 ((nI_ltI (a := 0) (b := kN (aF A)) (by omega) (by omega)).mpr h9)
          refine l_aload_n (pc := 50) hc dL_areYears_50 1 rfl ?_
          refine l_bipush (v := 8) (pc := 51) hc dL_areYears_51 (by decide) ?_
          refine l_q (pc := 53) hc cl_L_8 rfl [.int 8] (fun G hG9 => C_count hI (kl K) G 8 A B hG9 hV hZ hB) rfl rfl (by simp [Value.category]) rfl rfl ⟨by decide, by decide⟩ dL_areYears_53 ?_
          refine l_as (-5) (qc8_0 hV (by omega)) ?_
          refine l_bipush (v := (-5)) (pc := 56) hc dL_areYears_56 (by decide) ?_
          refine l_icmp_ne (pc := 58) hc dL_areYears_58 75 (by decide) (fun c58 => ?_) (fun c58 => ?_)
          · exact absurd c58 (by decide)
          · refine l_aload_n (pc := 61) hc dL_areYears_61 1 rfl ?_
            refine l_iconst (v := 0) (pc := 62) hc dL_areYears_62 (by decide) ?_
            refine l_q (pc := 63) hc cl_L_36 rfl [.int 0] (fun G hG9 => C_bestBound hI (kl K) G 0 A B hG9 hV hZ hB) rfl rfl (by simp [Value.category]) rfl rfl ⟨by decide, by decide⟩ dL_areYears_63 ?_
            refine l_as (-5) (qb_0 hV (by omega)).1 ?_
            refine l_bipush (v := (-5)) (pc := 66) hc dL_areYears_66 (by decide) ?_
            refine l_icmp_ne (pc := 68) hc dL_areYears_68 75 (by decide) (fun c68 => ?_) (fun c68 => ?_)
            · exact absurd c68 (by decide)
            · refine l_iconst (v := 1) (pc := 71) hc dL_areYears_71 (by decide) ?_
              refine l_goto (pc := 72) hc dL_areYears_72 76 (by decide) ?_
              exact hret _ _ _ _ _ dL_areYears_76 ⟨rfl, rfl, rfl⟩
set_option maxHeartbeats 4000000 in
set_option maxRecDepth 100000 in
theorem l_nextBase {w : WT} (hI : xI w) (l : Launch) (A : AT) (D : Nat → Int32) (B : Nat) (x : Nat) (v : Int32) (hx : x < 20) (h19 : dN (aF A) = 19) (hG : LG A B) (hB : B + 1 < 2 ^ 30) : LMi w l yL_nextBase cL_nextBase 8 (some .int) ⟨4, 0, 0, 97⟩ [.ref (w.2.2 0), .int (nI x), .int v] A D (fun r A' D' => r = bnd (aF A x + mean (lastM (aF A) v) x (rN (aF A)) * aF A 304 / 100) + 1000 ∧ A' = A ∧ D' = D) := by
  refine mk_l (L0 := [(0, .ref (w.2.2 0)), (1, .int (nI x)), (2, .int v)]) hI (by decide +kernel) rfl (Nat.le_of_ble_eq_true rfl) (fun _ _ _ _ => rfl) (fun K hc hret => ?_)
  have hV := hG.1.1
  have hZ := hG.1.2
  obtain ⟨hd, e300⟩ := hV.2.1.1
  obtain ⟨hyB, e301, e302⟩ := hV.2.1.2.1
  obtain ⟨hr9, e303⟩ := hV.2.1.2.2.1
  obtain ⟨hc5, e307, hfe⟩ := hV.2.1.2.2.2.2.1
  have hk4 := kN4 (aF A)
  refine l_iconst (v := 0) (pc := 0) hc dL_nextBase_0 (by decide) ?_
  refine l_istore_n (pc := 1) (L' := [(3, .int 0), (0, .ref (w.2.2 0)), (1, .int (nI x)), (2, .int v)]) hc dL_nextBase_1 (by decide) rfl ?_
  refine l_iconst (v := 0) (pc := 2) hc dL_nextBase_2 (by decide) ?_
  refine l_istore (pc := 3) (L' := [(4, .int 0), (3, .int 0), (0, .ref (w.2.2 0)), (1, .int (nI x)), (2, .int v)]) hc dL_nextBase_3 (by decide) rfl ?_
  refine l_aload_n (pc := 5) hc dL_nextBase_5 2 rfl ?_
  refine l_bipush (v := 12) (pc := 6) hc dL_nextBase_6 (by decide) ?_
  refine l_q (pc := 8) hc cl_L_8 rfl [.int 12] (fun G hG9 => C_count hI (kl K) G 12 A B hG9 hV hZ hB) rfl rfl (by simp [Value.category]) rfl rfl ⟨by decide, by decide⟩ dL_nextBase_8 ?_
  refine l_as (nI (rN (aF A)) + 1000) ((qc_12 A).trans (congrArg (· + 1000) e303)) ?_
  refine l_sipush (v := 1000) (pc := 11) hc dL_nextBase_11 (by decide) ?_
  refine l_isub (pc := 14) hc dL_nextBase_14 ?_
  refine l_as (nI (rN (aF A))) (i32_ac _ _) ?_
  refine l_istore (pc := 15) (L' := [(5, .int (nI (rN (aF A)))), (4, .int 0), (3, .int 0), (0, .ref (w.2.2 0)), (1, .int (nI x)), (2, .int v)]) hc dL_nextBase_15 (by decide) rfl ?_
  refine l_iconst (v := 0) (pc := 17) hc dL_nextBase_17 (by decide) ?_
  refine l_istore (pc := 18) (L' := [(6, .int 0), (5, .int (nI (rN (aF A)))), (4, .int 0), (3, .int 0), (0, .ref (w.2.2 0)), (1, .int (nI x)), (2, .int v)]) hc dL_nextBase_18 (by decide) rfl ?_
  have loop20 : ∀ (n20 : Nat) (k : Nat), k ≤ 20 → 21 ≤ k + n20 → LX w K 8 A D 20 [(6, .int (nI k)), (5, .int (nI (rN (aF A)))), (4, .int (nI (mCnt x (rN (aF A)) k))), (3, .int (mSum (lastM (aF A) v) x (rN (aF A)) k)), (2, .int v), (1, .int (nI x)), (0, .ref (w.2.2 0))] [] := by
    intro n20
    induction n20 with
    | zero => intro k hk2 hn2; omega
    | succ n20 ih20 =>
      intro k hk2 hn2
      refine l_iload (pc := 20) hc dL_nextBase_20 0 rfl ?_
      refine l_bipush (v := 20) (pc := 22) hc dL_nextBase_22 (by decide) ?_
      refine l_icmp_ge (pc := 24) hc dL_nextBase_24 112 (by decide) (fun c24 => ?_) (fun c24 => ?_)
      · have oc24 := c24
        have c24 : 20 ≤ k := (nI_leI (a := 20) (b := k) (by omega) (by omega)).mp c24
        refine l_aload_n (pc := 112) hc dL_nextBase_112 6 rfl ?_
        refine l_iload_n (pc := 113) hc dL_nextBase_113 5 rfl ?_
        refine l_iconst (v := 0) (pc := 114) hc dL_nextBase_114 (by decide) ?_
        refine l_q (pc := 115) hc cl_L_14 rfl [.int (nI x), .int 0] (fun G hG9 => C_dayOf hI (kl K) G (nI x) 0 A B hG9 hV hZ hB) rfl rfl (by simp [Value.category]) rfl rfl ⟨by decide, by decide⟩ dL_nextBase_115 ?_
        refine l_as (aF A x + 1000) (qd_0 A (d := x) (by omega)) ?_
        refine l_sipush (v := 1000) (pc := 118) hc dL_nextBase_118 (by decide) ?_
        refine l_isub (pc := 121) hc dL_nextBase_121 ?_
        refine l_as (aF A x) (i32_ac _ _) ?_
        refine l_iload_n (pc := 122) hc dL_nextBase_122 3 rfl ?_
        refine l_iload (pc := 123) hc dL_nextBase_123 2 rfl ?_
        refine l_idiv (pc := 125) hc dL_nextBase_125 (cnt_nz (by omega) (by omega)) ?_
        refine l_as (mean (lastM (aF A) v) x (rN (aF A))) (mean_k (by omega)) ?_
        refine l_aload_n (pc := 126) hc dL_nextBase_126 6 rfl ?_
        refine l_bipush (v := 13) (pc := 127) hc dL_nextBase_127 (by decide) ?_
        refine l_q (pc := 129) hc cl_L_8 rfl [.int 13] (fun G hG9 => C_count hI (kl K) G 13 A B hG9 hV hZ hB) rfl rfl (by simp [Value.category]) rfl rfl ⟨by decide, by decide⟩ dL_nextBase_129 ?_
        refine l_as (aF A 304 + 1000) (qc_13 A) ?_
        refine l_sipush (v := 1000) (pc := 132) hc dL_nextBase_132 (by decide) ?_
        refine l_isub (pc := 135) hc dL_nextBase_135 ?_
        refine l_as (aF A 304) (i32_ac _ _) ?_
        refine l_imul (pc := 136) hc dL_nextBase_136 ?_
        refine l_bipush (v := 100) (pc := 137) hc dL_nextBase_137 (by decide) ?_
        refine l_idiv (pc := 139) hc dL_nextBase_139 (by decide) ?_
        refine l_iadd (pc := 140) hc dL_nextBase_140 ?_
        refine l_s (pc := 141) hc cl_L_21 [.int ((aF A x) + (((mean (lastM (aF A) v) x (rN (aF A))) * (aF A 304)) / 100))] (l_bounded hI (kl K) A D ((aF A x) + (((mean (lastM (aF A) v) x (rN (aF A))) * (aF A 304)) / 100))) rfl rfl (by simp [Value.category]) rfl rfl ⟨by decide, by decide⟩ dL_nextBase_141 (fun r141 Aa141 Da141 q141 => ?_)
        obtain ⟨er141, eAa141, eDa141⟩ := q141
        rw [eAa141, eDa141]
        subst er141
        refine l_sipush (v := 1000) (pc := 144) hc dL_nextBase_144 (by decide) ?_
        refine l_iadd (pc := 147) hc dL_nextBase_147 ?_
        exact hret _ _ _ _ _ dL_nextBase_148 ⟨rfl, rfl, rfl⟩
      · have oc24 := c24
        have c24 : ¬ 20 ≤ k := fun h9 => c24 ((nI_leI (a := 20) (b := k) (by omega) (by omega)).mpr h9)
        refine l_iload (pc := 27) hc dL_nextBase_27 0 rfl ?_
        refine l_bipush (v := 19) (pc := 29) hc dL_nextBase_29 (by decide) ?_
        have j61 : ∀ v61 : Int32, v61 = (if 19 ≤ (nI k) then (v - (rToldOf (aF A) 19)) else (nowM (aF A) k)) → LX w K 8 A D 61 [(6, .int (nI k)), (5, .int (nI (rN (aF A)))), (4, .int (nI (mCnt x (rN (aF A)) k))), (3, .int (mSum (lastM (aF A) v) x (rN (aF A)) k)), (2, .int v), (1, .int (nI x)), (0, .ref (w.2.2 0))] [.int v61] := by
          intro v61 hv61
          refine l_as (lastM (aF A) v k) (hv61.trans (last_eq hV h19 (by omega))) ?_
          refine l_istore (pc := 61) (L' := [(7, .int (lastM (aF A) v k)), (6, .int (nI k)), (5, .int (nI (rN (aF A)))), (4, .int (nI (mCnt x (rN (aF A)) k))), (3, .int (mSum (lastM (aF A) v) x (rN (aF A)) k)), (2, .int v), (1, .int (nI x)), (0, .ref (w.2.2 0))]) hc dL_nextBase_61 (by decide) rfl ?_
          refine l_iload_n (pc := 63) hc dL_nextBase_63 4 rfl ?_
          refine l_iload (pc := 64) hc dL_nextBase_64 1 rfl ?_
          refine l_iload_n (pc := 66) hc dL_nextBase_66 6 rfl ?_
          refine l_isub (pc := 67) hc dL_nextBase_67 ?_
          refine l_s (pc := 68) hc cl_L_26 [.int ((nI k) - (nI x))] (l_size hI (kl K) A D ((nI k) - (nI x))) rfl rfl (by simp [Value.category]) rfl rfl ⟨by decide, by decide⟩ dL_nextBase_68 (fun r68 Aa68 Da68 q68 => ?_)
          obtain ⟨er68, eAa68, eDa68⟩ := q68
          rw [eAa68, eDa68]
          subst er68
          refine l_iload (pc := 71) hc dL_nextBase_71 2 rfl ?_
          have j82 : ∀ v82 : Int32, v82 = (if (nI (rN (aF A))) < (szI ((nI k) - (nI x))) then 0 else (lastM (aF A) v k)) → LX w K 8 A D 82 [(7, .int (lastM (aF A) v k)), (6, .int (nI k)), (5, .int (nI (rN (aF A)))), (4, .int (nI (mCnt x (rN (aF A)) k))), (3, .int (mSum (lastM (aF A) v) x (rN (aF A)) k)), (2, .int v), (1, .int (nI x)), (0, .ref (w.2.2 0))] [.int v82, .int (mSum (lastM (aF A) v) x (rN (aF A)) k)] := by
            intro v82 hv82
            refine l_as (if x ≤ k + rN (aF A) ∧ k ≤ x + rN (aF A) then lastM (aF A) v k else 0) (hv82.trans (reach_if (by omega) (by omega) (by omega))) ?_
            refine l_iadd (pc := 82) hc dL_nextBase_82 ?_
            refine l_istore_n (pc := 83) (L' := [(3, .int ((mSum (lastM (aF A) v) x (rN (aF A)) k) + (if x ≤ k + rN (aF A) ∧ k ≤ x + rN (aF A) then lastM (aF A) v k else 0))), (7, .int (lastM (aF A) v k)), (6, .int (nI k)), (5, .int (nI (rN (aF A)))), (4, .int (nI (mCnt x (rN (aF A)) k))), (2, .int v), (1, .int (nI x)), (0, .ref (w.2.2 0))]) hc dL_nextBase_83 (by decide) rfl ?_
            refine l_iload (pc := 84) hc dL_nextBase_84 4 rfl ?_
            refine l_iload (pc := 86) hc dL_nextBase_86 2 rfl ?_
            refine l_iload_n (pc := 88) hc dL_nextBase_88 6 rfl ?_
            refine l_isub (pc := 89) hc dL_nextBase_89 ?_
            refine l_s (pc := 90) hc cl_L_26 [.int ((nI k) - (nI x))] (l_size hI (kl K) A D ((nI k) - (nI x))) rfl rfl (by simp [Value.category]) rfl rfl ⟨by decide, by decide⟩ dL_nextBase_90 (fun r90 Aa90 Da90 q90 => ?_)
            obtain ⟨er90, eAa90, eDa90⟩ := q90
            rw [eAa90, eDa90]
            subst er90
            refine l_iload (pc := 93) hc dL_nextBase_93 3 rfl ?_
            have j103 : ∀ v103 : Int32, v103 = (if (nI (rN (aF A))) < (szI ((nI k) - (nI x))) then 0 else 1) → LX w K 8 A D 103 [(3, .int ((mSum (lastM (aF A) v) x (rN (aF A)) k) + (if x ≤ k + rN (aF A) ∧ k ≤ x + rN (aF A) then lastM (aF A) v k else 0))), (7, .int (lastM (aF A) v k)), (6, .int (nI k)), (5, .int (nI (rN (aF A)))), (4, .int (nI (mCnt x (rN (aF A)) k))), (2, .int v), (1, .int (nI x)), (0, .ref (w.2.2 0))] [.int v103, .int (nI (mCnt x (rN (aF A)) k))] := by
              intro v103 hv103
              refine l_as (b01 (x ≤ k + rN (aF A) ∧ k ≤ x + rN (aF A))) (hv103.trans (reach_b (by omega) (by omega) (by omega))) ?_
              refine l_iadd (pc := 103) hc dL_nextBase_103 ?_
              refine l_as (nI (mCnt x (rN (aF A)) (k + 1))) cnt_1 ?_
              refine l_istore (pc := 104) (L' := [(4, .int (nI (mCnt x (rN (aF A)) (k + 1)))), (3, .int ((mSum (lastM (aF A) v) x (rN (aF A)) k) + (if x ≤ k + rN (aF A) ∧ k ≤ x + rN (aF A) then lastM (aF A) v k else 0))), (7, .int (lastM (aF A) v k)), (6, .int (nI k)), (5, .int (nI (rN (aF A)))), (2, .int v), (1, .int (nI x)), (0, .ref (w.2.2 0))]) hc dL_nextBase_104 (by decide) rfl ?_
              refine l_iinc (pc := 106) (L' := [(6, .int (nI (k + 1))), (4, .int (nI (mCnt x (rN (aF A)) (k + 1)))), (3, .int ((mSum (lastM (aF A) v) x (rN (aF A)) k) + (if x ≤ k + rN (aF A) ∧ k ≤ x + rN (aF A) then lastM (aF A) v k else 0))), (7, .int (lastM (aF A) v k)), (5, .int (nI (rN (aF A)))), (2, .int v), (1, .int (nI x)), (0, .ref (w.2.2 0))]) hc dL_nextBase_106 3 rfl (nI (k + 1)) (nI_1 _) (by decide) rfl ?_
              refine l_goto (pc := 109) hc dL_nextBase_109 20 (by decide) ?_
              refine l_loc [0, 4, 1, 2, 5, 6, 7] rfl ?_
              exact ih20 (k + 1) (by omega) (by omega)
            refine l_icmp_gt (pc := 95) hc dL_nextBase_95 102 (by decide) (fun c95 => ?_) (fun c95 => ?_)
            · refine l_iconst (v := 0) (pc := 102) hc dL_nextBase_102 (by decide) ?_
              exact j103 _ (by rw [if_pos c95])
            · refine l_iconst (v := 1) (pc := 98) hc dL_nextBase_98 (by decide) ?_
              refine l_goto (pc := 99) hc dL_nextBase_99 103 (by decide) ?_
              exact j103 _ (by rw [if_neg c95])
          refine l_icmp_gt (pc := 73) hc dL_nextBase_73 81 (by decide) (fun c73 => ?_) (fun c73 => ?_)
          · refine l_iconst (v := 0) (pc := 81) hc dL_nextBase_81 (by decide) ?_
            exact j82 _ (by rw [if_pos c73])
          · refine l_iload (pc := 76) hc dL_nextBase_76 0 rfl ?_
            refine l_goto (pc := 78) hc dL_nextBase_78 82 (by decide) ?_
            exact j82 _ (by rw [if_neg c73])
        refine l_icmp_ge (pc := 31) hc dL_nextBase_31 48 (by decide) (fun c31 => ?_) (fun c31 => ?_)
        · have oc31 := c31
          have c31 : 19 ≤ k := (nI_leI (a := 19) (b := k) (by omega) (by omega)).mp c31
          refine l_iload_n (pc := 48) hc dL_nextBase_48 4 rfl ?_
          refine l_aload_n (pc := 49) hc dL_nextBase_49 6 rfl ?_
          refine l_bipush (v := 19) (pc := 50) hc dL_nextBase_50 (by decide) ?_
          refine l_iconst (v := 1) (pc := 52) hc dL_nextBase_52 (by decide) ?_
          refine l_q (pc := 53) hc cl_L_14 rfl [.int 19, .int 1] (fun G hG9 => C_dayOf hI (kl K) G 19 1 A B hG9 hV hZ hB) rfl rfl (by simp [Value.category]) rfl rfl ⟨by decide, by decide⟩ dL_nextBase_53 ?_
          refine l_as (rToldOf (aF A) 19 + 1000) (qd_1 A (d := 19) (by omega)) ?_
          refine l_sipush (v := 1000) (pc := 56) hc dL_nextBase_56 (by decide) ?_
          refine l_isub (pc := 59) hc dL_nextBase_59 ?_
          refine l_as (rToldOf (aF A) 19) (i32_ac _ _) ?_
          refine l_isub (pc := 60) hc dL_nextBase_60 ?_
          exact j61 _ (by rw [if_pos oc31])
        · have oc31 := c31
          have c31 : ¬ 19 ≤ k := fun h9 => c31 ((nI_leI (a := 19) (b := k) (by omega) (by omega)).mpr h9)
          refine l_aload_n (pc := 34) hc dL_nextBase_34 6 rfl ?_
          refine l_iload (pc := 35) hc dL_nextBase_35 0 rfl ?_
          refine l_iconst (v := 3) (pc := 37) hc dL_nextBase_37 (by decide) ?_
          refine l_q (pc := 38) hc cl_L_14 rfl [.int (nI k), .int 3] (fun G hG9 => C_dayOf hI (kl K) G (nI k) 3 A B hG9 hV hZ hB) rfl rfl (by simp [Value.category]) rfl rfl ⟨by decide, by decide⟩ dL_nextBase_38 ?_
          refine l_as (nowM (aF A) k + 1000) (qd_3m hV (d := k) (by omega) (by omega)) ?_
          refine l_sipush (v := 1000) (pc := 41) hc dL_nextBase_41 (by decide) ?_
          refine l_isub (pc := 44) hc dL_nextBase_44 ?_
          refine l_as (nowM (aF A) k) (i32_ac _ _) ?_
          refine l_goto (pc := 45) hc dL_nextBase_45 61 (by decide) ?_
          exact j61 _ (by rw [if_neg oc31])
  refine l_loc [0, 1, 2, 3, 6, 5, 4] rfl ?_
  exact loop20 21 0 (by omega) (by omega)
set_option maxHeartbeats 4000000 in
set_option maxRecDepth 100000 in
theorem l_isBound {w : WT} (hI : xI w) (l : Launch) (A : AT) (D : Nat → Int32) (B : Nat) (hG : LG A B) (hB : B + 1 < 2 ^ 30) : LMi w l yL_isBound cL_isBound 8 (some .boolean) ⟨5, 0, 0, 124⟩ [.ref (w.2.2 0)] A D (fun r A' D' => r = 1 ∧ A' = A ∧ D' = D) := by
  refine mk_l (L0 := [(0, .ref (w.2.2 0))]) hI (by decide +kernel) rfl (Nat.le_of_ble_eq_true rfl) (fun v A9 D9 h => by rw [h.1]; rfl) (fun K hc hret => ?_)
  have hV := hG.1.1
  have hZ := hG.1.2
  obtain ⟨hd, e300⟩ := hV.2.1.1
  obtain ⟨hyB, e301, e302⟩ := hV.2.1.2.1
  obtain ⟨hr9, e303⟩ := hV.2.1.2.2.1
  obtain ⟨hc5, e307, hfe⟩ := hV.2.1.2.2.2.2.1
  have hk4 := kN4 (aF A)
  refine l_iconst (v := 0) (pc := 0) hc dL_isBound_0 (by decide) ?_
  refine l_istore_n (pc := 1) (L' := [(1, .int 0), (0, .ref (w.2.2 0))]) hc dL_isBound_1 (by decide) rfl ?_
  refine l_bipush (v := 100) (pc := 2) hc dL_isBound_2 (by decide) ?_
  refine l_istore_n (pc := 4) (L' := [(2, .int 100), (1, .int 0), (0, .ref (w.2.2 0))]) hc dL_isBound_4 (by decide) rfl ?_
  refine l_bipush (v := (-20)) (pc := 5) hc dL_isBound_5 (by decide) ?_
  refine l_as (bI 0) rfl ?_
  refine l_istore_n (pc := 7) (L' := [(3, .int (bI 0)), (2, .int 100), (1, .int 0), (0, .ref (w.2.2 0))]) hc dL_isBound_7 (by decide) rfl ?_
  have loop8 : ∀ (n8 : Nat) (j : Nat), j ≤ 41 → 42 ≤ j + n8 → (0 < j → 0 < kN (aF A)) → LX w K 8 A D 8 [(3, .int (bI j)), (2, .int ((LB (aF A) j).2)), (1, .int ((LB (aF A) j).1)), (0, .ref (w.2.2 0))] [] := by
    intro n8
    induction n8 with
    | zero => intro j hj hjn hj0; omega
    | succ n8 ih8 =>
      intro j hj hjn hj0
      refine l_iload_n (pc := 8) hc dL_isBound_8 0 rfl ?_
      refine l_bipush (v := 20) (pc := 9) hc dL_isBound_9 (by decide) ?_
      refine l_icmp_gt (pc := 11) hc dL_isBound_11 161 (by decide) (fun c11 => ?_) (fun c11 => ?_)
      · have hj41 := (bI_20 (by omega)).mp c11
        refine l_aload_n (pc := 161) hc dL_isBound_161 3 rfl ?_
        refine l_iconst (v := 2) (pc := 162) hc dL_isBound_162 (by decide) ?_
        refine l_q (pc := 163) hc cl_L_8 rfl [.int 2] (fun G hG9 => C_count hI (kl K) G 2 A B hG9 hV hZ hB) rfl rfl (by simp [Value.category]) rfl rfl ⟨by decide, by decide⟩ dL_isBound_163 ?_
        refine l_as (nI (kN (aF A))) ((qc_2 A).trans e302) ?_
        refine l_if_ne (pc := 166) hc dL_isBound_166 173 (by decide) (fun c166 => ?_) (fun c166 => ?_)
        · have oc166 := c166
          have c166 : ¬ kN (aF A) = 0 := fun h9 => c166 ((nI_eq (a := kN (aF A)) (b := 0) (by omega) (by omega)).mpr h9)
          refine l_iconst (v := 0) (pc := 173) hc dL_isBound_173 (by decide) ?_
          refine l_istore_n (pc := 174) (L' := [(3, .int 0), (2, .int ((LB (aF A) j).2)), (1, .int ((LB (aF A) j).1)), (0, .ref (w.2.2 0))]) hc dL_isBound_174 (by decide) rfl ?_
          refine l_aload_n (pc := 175) hc dL_isBound_175 3 rfl ?_
          refine l_iconst (v := 0) (pc := 176) hc dL_isBound_176 (by decide) ?_
          refine l_q (pc := 177) hc cl_L_61 rfl [.int 0] (fun G hG9 => C_bestRate hI (kl K) G 0 A B hG9 hV hZ hB) rfl rfl (by simp [Value.category]) rfl rfl ⟨by decide, by decide⟩ dL_isBound_177 ?_
          refine l_istore (pc := 180) (L' := [(4, .int (qRate A 0)), (3, .int 0), (2, .int ((LB (aF A) j).2)), (1, .int ((LB (aF A) j).1)), (0, .ref (w.2.2 0))]) hc dL_isBound_180 (by decide) rfl ?_
          refine l_aload_n (pc := 182) hc dL_isBound_182 4 rfl ?_
          refine l_iconst (v := 1) (pc := 183) hc dL_isBound_183 (by decide) ?_
          refine l_q (pc := 184) hc cl_L_61 rfl [.int 1] (fun G hG9 => C_bestRate hI (kl K) G 1 A B hG9 hV hZ hB) rfl rfl (by simp [Value.category]) rfl rfl ⟨by decide, by decide⟩ dL_isBound_184 ?_
          refine l_istore (pc := 187) (L' := [(5, .int (qRate A 1)), (4, .int (qRate A 0)), (3, .int 0), (2, .int ((LB (aF A) j).2)), (1, .int ((LB (aF A) j).1)), (0, .ref (w.2.2 0))]) hc dL_isBound_187 (by decide) rfl ?_
          refine l_aload_n (pc := 189) hc dL_isBound_189 5 rfl ?_
          refine l_iconst (v := 2) (pc := 190) hc dL_isBound_190 (by decide) ?_
          refine l_q (pc := 191) hc cl_L_8 rfl [.int 2] (fun G hG9 => C_count hI (kl K) G 2 A B hG9 hV hZ hB) rfl rfl (by simp [Value.category]) rfl rfl ⟨by decide, by decide⟩ dL_isBound_191 ?_
          refine l_as (nI (kN (aF A))) ((qc_2 A).trans e302) ?_
          refine l_iconst (v := 2) (pc := 194) hc dL_isBound_194 (by decide) ?_
          refine l_icmp_ge (pc := 195) hc dL_isBound_195 220 (by decide) (fun c195 => ?_) (fun c195 => ?_)
          · have oc195 := c195
            have c195 : 2 ≤ kN (aF A) := (nI_leI (a := 2) (b := kN (aF A)) (by omega) (by omega)).mp c195
            refine l_iload (pc := 220) hc dL_isBound_220 1 rfl ?_
            refine l_if_lt (pc := 222) hc dL_isBound_222 249 (by decide) (fun c222 => ?_) (fun c222 => ?_)
            · exact absurd c222 (qr_rng hG.2 (by omega)).1.1
            · refine l_iload (pc := 225) hc dL_isBound_225 1 rfl ?_
              refine l_bipush (v := 100) (pc := 227) hc dL_isBound_227 (by decide) ?_
              refine l_icmp_gt (pc := 229) hc dL_isBound_229 249 (by decide) (fun c229 => ?_) (fun c229 => ?_)
              · exact absurd c229 (qr_rng hG.2 (by omega)).1.2
              · refine l_iload (pc := 232) hc dL_isBound_232 0 rfl ?_
                refine l_if_lt (pc := 234) hc dL_isBound_234 249 (by decide) (fun c234 => ?_) (fun c234 => ?_)
                · exact absurd c234 (qr_rng hG.2 (by omega)).2.1
                · refine l_iload (pc := 237) hc dL_isBound_237 0 rfl ?_
                  refine l_sipush (v := 1600) (pc := 239) hc dL_isBound_239 (by decide) ?_
                  refine l_icmp_gt (pc := 242) hc dL_isBound_242 249 (by decide) (fun c242 => ?_) (fun c242 => ?_)
                  · exact absurd c242 (qr_rng hG.2 (by omega)).2.2
                  · refine l_iconst (v := 1) (pc := 245) hc dL_isBound_245 (by decide) ?_
                    refine l_goto (pc := 246) hc dL_isBound_246 250 (by decide) ?_
                    refine l_istore (pc := 250) (L' := [(6, .int 1), (5, .int (qRate A 1)), (4, .int (qRate A 0)), (3, .int 0), (2, .int ((LB (aF A) j).2)), (1, .int ((LB (aF A) j).1)), (0, .ref (w.2.2 0))]) hc dL_isBound_250 (by decide) rfl ?_
                    refine l_iload (pc := 252) hc dL_isBound_252 0 rfl ?_
                    refine l_if_eq (pc := 254) hc dL_isBound_254 301 (by decide) (fun c254 => ?_) (fun c254 => ?_)
                    · exact absurd c254 (by decide)
                    · refine l_aload_n (pc := 257) hc dL_isBound_257 6 rfl ?_
                      refine l_iconst (v := 0) (pc := 258) hc dL_isBound_258 (by decide) ?_
                      refine l_q (pc := 259) hc cl_L_36 rfl [.int 0] (fun G hG9 => C_bestBound hI (kl K) G 0 A B hG9 hV hZ hB) rfl rfl (by simp [Value.category]) rfl rfl ⟨by decide, by decide⟩ dL_isBound_259 ?_
                      refine l_iload_n (pc := 262) hc dL_isBound_262 3 rfl ?_
                      refine l_if_eq (pc := 263) hc dL_isBound_263 271 (by decide) (fun c263 => ?_) (fun c263 => ?_)
                      · refine l_iload_n (pc := 271) hc dL_isBound_271 5 rfl ?_
                        refine l_sipush (v := 1000) (pc := 272) hc dL_isBound_272 (by decide) ?_
                        refine l_iadd (pc := 275) hc dL_isBound_275 ?_
                        refine l_icmp_ne (pc := 276) hc dL_isBound_276 301 (by decide) (fun c276 => ?_) (fun c276 => ?_)
                        · exact absurd ((qb_1 hV (by omega)).1.trans (by rw [show j = 41 by omega, LB_bB])) c276
                        · refine l_aload_n (pc := 279) hc dL_isBound_279 6 rfl ?_
                          refine l_iconst (v := 1) (pc := 280) hc dL_isBound_280 (by decide) ?_
                          refine l_q (pc := 281) hc cl_L_36 rfl [.int 1] (fun G hG9 => C_bestBound hI (kl K) G 1 A B hG9 hV hZ hB) rfl rfl (by simp [Value.category]) rfl rfl ⟨by decide, by decide⟩ dL_isBound_281 ?_
                          refine l_iload_n (pc := 284) hc dL_isBound_284 3 rfl ?_
                          refine l_if_eq (pc := 285) hc dL_isBound_285 293 (by decide) (fun c285 => ?_) (fun c285 => ?_)
                          · refine l_iload_n (pc := 293) hc dL_isBound_293 4 rfl ?_
                            refine l_icmp_ne (pc := 294) hc dL_isBound_294 301 (by decide) (fun c294 => ?_) (fun c294 => ?_)
                            · exact absurd ((qb_1 hV (by omega)).2.trans (by rw [show j = 41 by omega, LB_bB])) c294
                            · refine l_iconst (v := 1) (pc := 297) hc dL_isBound_297 (by decide) ?_
                              refine l_goto (pc := 298) hc dL_isBound_298 302 (by decide) ?_
                              exact hret _ _ _ _ _ dL_isBound_302 ⟨rfl, rfl, rfl⟩
                          · exact absurd (by decide) c285
                      · exact absurd (by decide) c263
          · have oc195 := c195
            have c195 : ¬ 2 ≤ kN (aF A) := fun h9 => c195 ((nI_leI (a := 2) (b := kN (aF A)) (by omega) (by omega)).mpr h9)
            refine l_iload (pc := 198) hc dL_isBound_198 1 rfl ?_
            refine l_bipush (v := (-5)) (pc := 200) hc dL_isBound_200 (by decide) ?_
            refine l_icmp_ne (pc := 202) hc dL_isBound_202 216 (by decide) (fun c202 => ?_) (fun c202 => ?_)
            · exact absurd (qr_lo (by omega)).1 c202
            · refine l_iload (pc := 205) hc dL_isBound_205 0 rfl ?_
              refine l_bipush (v := (-5)) (pc := 207) hc dL_isBound_207 (by decide) ?_
              refine l_icmp_ne (pc := 209) hc dL_isBound_209 216 (by decide) (fun c209 => ?_) (fun c209 => ?_)
              · exact absurd (qr_lo (by omega)).2 c209
              · refine l_iconst (v := 1) (pc := 212) hc dL_isBound_212 (by decide) ?_
                refine l_goto (pc := 213) hc dL_isBound_213 250 (by decide) ?_
                refine l_istore (pc := 250) (L' := [(6, .int 1), (5, .int (qRate A 1)), (4, .int (qRate A 0)), (3, .int 0), (2, .int ((LB (aF A) j).2)), (1, .int ((LB (aF A) j).1)), (0, .ref (w.2.2 0))]) hc dL_isBound_250 (by decide) rfl ?_
                refine l_iload (pc := 252) hc dL_isBound_252 0 rfl ?_
                refine l_if_eq (pc := 254) hc dL_isBound_254 301 (by decide) (fun c254_1 => ?_) (fun c254_1 => ?_)
                · exact absurd c254_1 (by decide)
                · refine l_aload_n (pc := 257) hc dL_isBound_257 6 rfl ?_
                  refine l_iconst (v := 0) (pc := 258) hc dL_isBound_258 (by decide) ?_
                  refine l_q (pc := 259) hc cl_L_36 rfl [.int 0] (fun G hG9 => C_bestBound hI (kl K) G 0 A B hG9 hV hZ hB) rfl rfl (by simp [Value.category]) rfl rfl ⟨by decide, by decide⟩ dL_isBound_259 ?_
                  refine l_iload_n (pc := 262) hc dL_isBound_262 3 rfl ?_
                  refine l_if_eq (pc := 263) hc dL_isBound_263 271 (by decide) (fun c263_1 => ?_) (fun c263_1 => ?_)
                  · refine l_iload_n (pc := 271) hc dL_isBound_271 5 rfl ?_
                    refine l_sipush (v := 1000) (pc := 272) hc dL_isBound_272 (by decide) ?_
                    refine l_iadd (pc := 275) hc dL_isBound_275 ?_
                    refine l_icmp_ne (pc := 276) hc dL_isBound_276 301 (by decide) (fun c276_1 => ?_) (fun c276_1 => ?_)
                    · exact absurd ((qb_1 hV (by omega)).1.trans (by rw [show j = 41 by omega, LB_bB])) c276_1
                    · refine l_aload_n (pc := 279) hc dL_isBound_279 6 rfl ?_
                      refine l_iconst (v := 1) (pc := 280) hc dL_isBound_280 (by decide) ?_
                      refine l_q (pc := 281) hc cl_L_36 rfl [.int 1] (fun G hG9 => C_bestBound hI (kl K) G 1 A B hG9 hV hZ hB) rfl rfl (by simp [Value.category]) rfl rfl ⟨by decide, by decide⟩ dL_isBound_281 ?_
                      refine l_iload_n (pc := 284) hc dL_isBound_284 3 rfl ?_
                      refine l_if_eq (pc := 285) hc dL_isBound_285 293 (by decide) (fun c285_1 => ?_) (fun c285_1 => ?_)
                      · refine l_iload_n (pc := 293) hc dL_isBound_293 4 rfl ?_
                        refine l_icmp_ne (pc := 294) hc dL_isBound_294 301 (by decide) (fun c294_1 => ?_) (fun c294_1 => ?_)
                        · exact absurd ((qb_1 hV (by omega)).2.trans (by rw [show j = 41 by omega, LB_bB])) c294_1
                        · refine l_iconst (v := 1) (pc := 297) hc dL_isBound_297 (by decide) ?_
                          refine l_goto (pc := 298) hc dL_isBound_298 302 (by decide) ?_
                          exact hret _ _ _ _ _ dL_isBound_302 ⟨rfl, rfl, rfl⟩
                      · exact absurd (by decide) c285_1
                  · exact absurd (by decide) c263_1
        · exact absurd c166 (nI_ne0 (by omega) (by omega))
      · have hj41 : ¬ 40 < j := fun z => c11 ((bI_20 (by omega)).mpr z)
        refine l_aload_n (pc := 14) hc dL_isBound_14 3 rfl ?_
        refine l_iconst (v := 2) (pc := 15) hc dL_isBound_15 (by decide) ?_
        refine l_q (pc := 16) hc cl_L_8 rfl [.int 2] (fun G hG9 => C_count hI (kl K) G 2 A B hG9 hV hZ hB) rfl rfl (by simp [Value.category]) rfl rfl ⟨by decide, by decide⟩ dL_isBound_16 ?_
        refine l_as (nI (kN (aF A))) ((qc_2 A).trans e302) ?_
        refine l_if_le (pc := 19) hc dL_isBound_19 161 (by decide) (fun c19 => ?_) (fun c19 => ?_)
        · have oc19 := c19
          have c19 : kN (aF A) ≤ 0 := (nI_leI (a := kN (aF A)) (b := 0) (by omega) (by omega)).mp c19
          refine l_aload_n (pc := 161) hc dL_isBound_161 3 rfl ?_
          refine l_iconst (v := 2) (pc := 162) hc dL_isBound_162 (by decide) ?_
          refine l_q (pc := 163) hc cl_L_8 rfl [.int 2] (fun G hG9 => C_count hI (kl K) G 2 A B hG9 hV hZ hB) rfl rfl (by simp [Value.category]) rfl rfl ⟨by decide, by decide⟩ dL_isBound_163 ?_
          refine l_as (nI (kN (aF A))) ((qc_2 A).trans e302) ?_
          refine l_if_ne (pc := 166) hc dL_isBound_166 173 (by decide) (fun c166_1 => ?_) (fun c166_1 => ?_)
          · exact absurd (by rw [show kN (aF A) = 0 by omega]; rfl) c166_1
          · have oc166_1 := c166_1
            have c166_1 : kN (aF A) = 0 := (nI_eq (a := kN (aF A)) (b := 0) (by omega) (by omega)).mp c166_1
            refine l_iconst (v := 1) (pc := 169) hc dL_isBound_169 (by decide) ?_
            refine l_goto (pc := 170) hc dL_isBound_170 174 (by decide) ?_
            refine l_istore_n (pc := 174) (L' := [(3, .int 1), (2, .int ((LB (aF A) j).2)), (1, .int ((LB (aF A) j).1)), (0, .ref (w.2.2 0))]) hc dL_isBound_174 (by decide) rfl ?_
            refine l_aload_n (pc := 175) hc dL_isBound_175 3 rfl ?_
            refine l_iconst (v := 0) (pc := 176) hc dL_isBound_176 (by decide) ?_
            refine l_q (pc := 177) hc cl_L_61 rfl [.int 0] (fun G hG9 => C_bestRate hI (kl K) G 0 A B hG9 hV hZ hB) rfl rfl (by simp [Value.category]) rfl rfl ⟨by decide, by decide⟩ dL_isBound_177 ?_
            refine l_istore (pc := 180) (L' := [(4, .int (qRate A 0)), (3, .int 1), (2, .int ((LB (aF A) j).2)), (1, .int ((LB (aF A) j).1)), (0, .ref (w.2.2 0))]) hc dL_isBound_180 (by decide) rfl ?_
            refine l_aload_n (pc := 182) hc dL_isBound_182 4 rfl ?_
            refine l_iconst (v := 1) (pc := 183) hc dL_isBound_183 (by decide) ?_
            refine l_q (pc := 184) hc cl_L_61 rfl [.int 1] (fun G hG9 => C_bestRate hI (kl K) G 1 A B hG9 hV hZ hB) rfl rfl (by simp [Value.category]) rfl rfl ⟨by decide, by decide⟩ dL_isBound_184 ?_
            refine l_istore (pc := 187) (L' := [(5, .int (qRate A 1)), (4, .int (qRate A 0)), (3, .int 1), (2, .int ((LB (aF A) j).2)), (1, .int ((LB (aF A) j).1)), (0, .ref (w.2.2 0))]) hc dL_isBound_187 (by decide) rfl ?_
            refine l_aload_n (pc := 189) hc dL_isBound_189 5 rfl ?_
            refine l_iconst (v := 2) (pc := 190) hc dL_isBound_190 (by decide) ?_
            refine l_q (pc := 191) hc cl_L_8 rfl [.int 2] (fun G hG9 => C_count hI (kl K) G 2 A B hG9 hV hZ hB) rfl rfl (by simp [Value.category]) rfl rfl ⟨by decide, by decide⟩ dL_isBound_191 ?_
            refine l_as (nI (kN (aF A))) ((qc_2 A).trans e302) ?_
            refine l_iconst (v := 2) (pc := 194) hc dL_isBound_194 (by decide) ?_
            refine l_icmp_ge (pc := 195) hc dL_isBound_195 220 (by decide) (fun c195_1 => ?_) (fun c195_1 => ?_)
            · have oc195_1 := c195_1
              have c195_1 : 2 ≤ kN (aF A) := (nI_leI (a := 2) (b := kN (aF A)) (by omega) (by omega)).mp c195_1
              refine l_iload (pc := 220) hc dL_isBound_220 1 rfl ?_
              refine l_if_lt (pc := 222) hc dL_isBound_222 249 (by decide) (fun c222_1 => ?_) (fun c222_1 => ?_)
              · exact absurd c222_1 (qr_rng hG.2 (by omega)).1.1
              · refine l_iload (pc := 225) hc dL_isBound_225 1 rfl ?_
                refine l_bipush (v := 100) (pc := 227) hc dL_isBound_227 (by decide) ?_
                refine l_icmp_gt (pc := 229) hc dL_isBound_229 249 (by decide) (fun c229_1 => ?_) (fun c229_1 => ?_)
                · exact absurd c229_1 (qr_rng hG.2 (by omega)).1.2
                · refine l_iload (pc := 232) hc dL_isBound_232 0 rfl ?_
                  refine l_if_lt (pc := 234) hc dL_isBound_234 249 (by decide) (fun c234_1 => ?_) (fun c234_1 => ?_)
                  · exact absurd c234_1 (qr_rng hG.2 (by omega)).2.1
                  · refine l_iload (pc := 237) hc dL_isBound_237 0 rfl ?_
                    refine l_sipush (v := 1600) (pc := 239) hc dL_isBound_239 (by decide) ?_
                    refine l_icmp_gt (pc := 242) hc dL_isBound_242 249 (by decide) (fun c242_1 => ?_) (fun c242_1 => ?_)
                    · exact absurd c242_1 (qr_rng hG.2 (by omega)).2.2
                    · refine l_iconst (v := 1) (pc := 245) hc dL_isBound_245 (by decide) ?_
                      refine l_goto (pc := 246) hc dL_isBound_246 250 (by decide) ?_
                      refine l_istore (pc := 250) (L' := [(6, .int 1), (5, .int (qRate A 1)), (4, .int (qRate A 0)), (3, .int 1), (2, .int ((LB (aF A) j).2)), (1, .int ((LB (aF A) j).1)), (0, .ref (w.2.2 0))]) hc dL_isBound_250 (by decide) rfl ?_
                      refine l_iload (pc := 252) hc dL_isBound_252 0 rfl ?_
                      refine l_if_eq (pc := 254) hc dL_isBound_254 301 (by decide) (fun c254_2 => ?_) (fun c254_2 => ?_)
                      · exact absurd c254_2 (by decide)
                      · refine l_aload_n (pc := 257) hc dL_isBound_257 6 rfl ?_
                        refine l_iconst (v := 0) (pc := 258) hc dL_isBound_258 (by decide) ?_
                        refine l_q (pc := 259) hc cl_L_36 rfl [.int 0] (fun G hG9 => C_bestBound hI (kl K) G 0 A B hG9 hV hZ hB) rfl rfl (by simp [Value.category]) rfl rfl ⟨by decide, by decide⟩ dL_isBound_259 ?_
                        refine l_iload_n (pc := 262) hc dL_isBound_262 3 rfl ?_
                        refine l_if_eq (pc := 263) hc dL_isBound_263 271 (by decide) (fun c263_2 => ?_) (fun c263_2 => ?_)
                        · exact absurd c263_2 (by decide)
                        · refine l_bipush (v := (-5)) (pc := 266) hc dL_isBound_266 (by decide) ?_
                          refine l_goto (pc := 268) hc dL_isBound_268 276 (by decide) ?_
                          refine l_icmp_ne (pc := 276) hc dL_isBound_276 301 (by decide) (fun c276_2 => ?_) (fun c276_2 => ?_)
                          · exact absurd (qb_0 hV (by omega)).1 c276_2
                          · refine l_aload_n (pc := 279) hc dL_isBound_279 6 rfl ?_
                            refine l_iconst (v := 1) (pc := 280) hc dL_isBound_280 (by decide) ?_
                            refine l_q (pc := 281) hc cl_L_36 rfl [.int 1] (fun G hG9 => C_bestBound hI (kl K) G 1 A B hG9 hV hZ hB) rfl rfl (by simp [Value.category]) rfl rfl ⟨by decide, by decide⟩ dL_isBound_281 ?_
                            refine l_iload_n (pc := 284) hc dL_isBound_284 3 rfl ?_
                            refine l_if_eq (pc := 285) hc dL_isBound_285 293 (by decide) (fun c285_2 => ?_) (fun c285_2 => ?_)
                            · exact absurd c285_2 (by decide)
                            · refine l_bipush (v := (-5)) (pc := 288) hc dL_isBound_288 (by decide) ?_
                              refine l_goto (pc := 290) hc dL_isBound_290 294 (by decide) ?_
                              refine l_icmp_ne (pc := 294) hc dL_isBound_294 301 (by decide) (fun c294_2 => ?_) (fun c294_2 => ?_)
                              · exact absurd (qb_0 hV (by omega)).2 c294_2
                              · refine l_iconst (v := 1) (pc := 297) hc dL_isBound_297 (by decide) ?_
                                refine l_goto (pc := 298) hc dL_isBound_298 302 (by decide) ?_
                                exact hret _ _ _ _ _ dL_isBound_302 ⟨rfl, rfl, rfl⟩
            · have oc195_1 := c195_1
              have c195_1 : ¬ 2 ≤ kN (aF A) := fun h9 => c195_1 ((nI_leI (a := 2) (b := kN (aF A)) (by omega) (by omega)).mpr h9)
              refine l_iload (pc := 198) hc dL_isBound_198 1 rfl ?_
              refine l_bipush (v := (-5)) (pc := 200) hc dL_isBound_200 (by decide) ?_
              refine l_icmp_ne (pc := 202) hc dL_isBound_202 216 (by decide) (fun c202_1 => ?_) (fun c202_1 => ?_)
              · exact absurd (qr_lo (by omega)).1 c202_1
              · refine l_iload (pc := 205) hc dL_isBound_205 0 rfl ?_
                refine l_bipush (v := (-5)) (pc := 207) hc dL_isBound_207 (by decide) ?_
                refine l_icmp_ne (pc := 209) hc dL_isBound_209 216 (by decide) (fun c209_1 => ?_) (fun c209_1 => ?_)
                · exact absurd (qr_lo (by omega)).2 c209_1
                · refine l_iconst (v := 1) (pc := 212) hc dL_isBound_212 (by decide) ?_
                  refine l_goto (pc := 213) hc dL_isBound_213 250 (by decide) ?_
                  refine l_istore (pc := 250) (L' := [(6, .int 1), (5, .int (qRate A 1)), (4, .int (qRate A 0)), (3, .int 1), (2, .int ((LB (aF A) j).2)), (1, .int ((LB (aF A) j).1)), (0, .ref (w.2.2 0))]) hc dL_isBound_250 (by decide) rfl ?_
                  refine l_iload (pc := 252) hc dL_isBound_252 0 rfl ?_
                  refine l_if_eq (pc := 254) hc dL_isBound_254 301 (by decide) (fun c254_3 => ?_) (fun c254_3 => ?_)
                  · exact absurd c254_3 (by decide)
                  · refine l_aload_n (pc := 257) hc dL_isBound_257 6 rfl ?_
                    refine l_iconst (v := 0) (pc := 258) hc dL_isBound_258 (by decide) ?_
                    refine l_q (pc := 259) hc cl_L_36 rfl [.int 0] (fun G hG9 => C_bestBound hI (kl K) G 0 A B hG9 hV hZ hB) rfl rfl (by simp [Value.category]) rfl rfl ⟨by decide, by decide⟩ dL_isBound_259 ?_
                    refine l_iload_n (pc := 262) hc dL_isBound_262 3 rfl ?_
                    refine l_if_eq (pc := 263) hc dL_isBound_263 271 (by decide) (fun c263_3 => ?_) (fun c263_3 => ?_)
                    · exact absurd c263_3 (by decide)
                    · refine l_bipush (v := (-5)) (pc := 266) hc dL_isBound_266 (by decide) ?_
                      refine l_goto (pc := 268) hc dL_isBound_268 276 (by decide) ?_
                      refine l_icmp_ne (pc := 276) hc dL_isBound_276 301 (by decide) (fun c276_3 => ?_) (fun c276_3 => ?_)
                      · exact absurd (qb_0 hV (by omega)).1 c276_3
                      · refine l_aload_n (pc := 279) hc dL_isBound_279 6 rfl ?_
                        refine l_iconst (v := 1) (pc := 280) hc dL_isBound_280 (by decide) ?_
                        refine l_q (pc := 281) hc cl_L_36 rfl [.int 1] (fun G hG9 => C_bestBound hI (kl K) G 1 A B hG9 hV hZ hB) rfl rfl (by simp [Value.category]) rfl rfl ⟨by decide, by decide⟩ dL_isBound_281 ?_
                        refine l_iload_n (pc := 284) hc dL_isBound_284 3 rfl ?_
                        refine l_if_eq (pc := 285) hc dL_isBound_285 293 (by decide) (fun c285_3 => ?_) (fun c285_3 => ?_)
                        · exact absurd c285_3 (by decide)
                        · refine l_bipush (v := (-5)) (pc := 288) hc dL_isBound_288 (by decide) ?_
                          refine l_goto (pc := 290) hc dL_isBound_290 294 (by decide) ?_
                          refine l_icmp_ne (pc := 294) hc dL_isBound_294 301 (by decide) (fun c294_3 => ?_) (fun c294_3 => ?_)
                          · exact absurd (qb_0 hV (by omega)).2 c294_3
                          · refine l_iconst (v := 1) (pc := 297) hc dL_isBound_297 (by decide) ?_
                            refine l_goto (pc := 298) hc dL_isBound_298 302 (by decide) ?_
                            exact hret _ _ _ _ _ dL_isBound_302 ⟨rfl, rfl, rfl⟩
        · have oc19 := c19
          have c19 : ¬ kN (aF A) ≤ 0 := fun h9 => c19 ((nI_leI (a := kN (aF A)) (b := 0) (by omega) (by omega)).mpr h9)
          refine l_iconst (v := 0) (pc := 22) hc dL_isBound_22 (by decide) ?_
          refine l_istore (pc := 23) (L' := [(4, .int 0), (3, .int (bI j)), (2, .int ((LB (aF A) j).2)), (1, .int ((LB (aF A) j).1)), (0, .ref (w.2.2 0))]) hc dL_isBound_23 (by decide) rfl ?_
          refine l_iconst (v := 0) (pc := 25) hc dL_isBound_25 (by decide) ?_
          refine l_istore (pc := 26) (L' := [(5, .int 0), (4, .int 0), (3, .int (bI j)), (2, .int ((LB (aF A) j).2)), (1, .int ((LB (aF A) j).1)), (0, .ref (w.2.2 0))]) hc dL_isBound_26 (by decide) rfl ?_
          have loop28 : ∀ (n28 : Nat) (k : Nat), k ≤ 20 → 21 ≤ k + n28 → LX w K 8 A D 28 [(5, .int (nI k)), (4, .int (wr (aF A) (bI j) k)), (3, .int (bI j)), (2, .int ((LB (aF A) j).2)), (1, .int ((LB (aF A) j).1)), (0, .ref (w.2.2 0))] [] := by
            intro n28
            induction n28 with
            | zero => intro k hk2 hn2; omega
            | succ n28 ih28 =>
              intro k hk2 hn2
              refine l_iload (pc := 28) hc dL_isBound_28 0 rfl ?_
              refine l_bipush (v := 20) (pc := 30) hc dL_isBound_30 (by decide) ?_
              refine l_icmp_ge (pc := 32) hc dL_isBound_32 101 (by decide) (fun c32 => ?_) (fun c32 => ?_)
              · have oc32 := c32
                have c32 : 20 ≤ k := (nI_leI (a := 20) (b := k) (by omega) (by omega)).mp c32
                refine l_iload (pc := 101) hc dL_isBound_101 1 rfl ?_
                refine l_iload_n (pc := 103) hc dL_isBound_103 3 rfl ?_
                have j123 : ∀ v123 : Int32, v123 = (if (wr (aF A) (bI j) k) = ((LB (aF A) j).2) then (if (szI ((LB (aF A) j).1)) ≤ (szI (bI j)) then 0 else 1) else 0) → LX w K 8 A D 123 [(5, .int (nI k)), (4, .int (wr (aF A) (bI j) k)), (3, .int (bI j)), (2, .int ((LB (aF A) j).2)), (1, .int ((LB (aF A) j).1)), (0, .ref (w.2.2 0))] [.int v123] := by
                  intro v123 hv123
                  refine l_as (b01 (wr (aF A) (bI j) k = (LB (aF A) j).2 ∧ szI (bI j) < szI (LB (aF A) j).1)) (hv123.trans (near_eq _ _ _ _)) ?_
                  refine l_istore (pc := 123) (L' := [(5, .int (b01 (wr (aF A) (bI j) k = (LB (aF A) j).2 ∧ szI (bI j) < szI (LB (aF A) j).1))), (4, .int (wr (aF A) (bI j) k)), (3, .int (bI j)), (2, .int ((LB (aF A) j).2)), (1, .int ((LB (aF A) j).1)), (0, .ref (w.2.2 0))]) hc dL_isBound_123 (by decide) rfl ?_
                  refine l_iload (pc := 125) hc dL_isBound_125 1 rfl ?_
                  refine l_iload_n (pc := 127) hc dL_isBound_127 3 rfl ?_
                  have j141 : ∀ v141 : Int32, v141 = (if (wr (aF A) (bI j) k) < ((LB (aF A) j).2) then (bI j) else (if (b01 (wr (aF A) (bI j) k = (LB (aF A) j).2 ∧ szI (bI j) < szI (LB (aF A) j).1)) = 0 then ((LB (aF A) j).1) else (bI j))) → LX w K 8 A D 141 [(5, .int (b01 (wr (aF A) (bI j) k = (LB (aF A) j).2 ∧ szI (bI j) < szI (LB (aF A) j).1))), (4, .int (wr (aF A) (bI j) k)), (3, .int (bI j)), (2, .int ((LB (aF A) j).2)), (1, .int ((LB (aF A) j).1)), (0, .ref (w.2.2 0))] [.int v141] := by
                    intro v141 hv141
                    refine l_as ((LB (aF A) (j + 1)).1) (hv141.trans (lb_1 (by omega))) ?_
                    refine l_istore_n (pc := 141) (L' := [(1, .int ((LB (aF A) (j + 1)).1)), (5, .int (b01 (wr (aF A) (bI j) k = (LB (aF A) j).2 ∧ szI (bI j) < szI (LB (aF A) j).1))), (4, .int (wr (aF A) (bI j) k)), (3, .int (bI j)), (2, .int ((LB (aF A) j).2)), (0, .ref (w.2.2 0))]) hc dL_isBound_141 (by decide) rfl ?_
                    refine l_iload (pc := 142) hc dL_isBound_142 2 rfl ?_
                    refine l_iload_n (pc := 144) hc dL_isBound_144 4 rfl ?_
                    have j154 : ∀ v154 : Int32, v154 = (if ((LB (aF A) j).2) ≤ (wr (aF A) (bI j) k) then ((LB (aF A) j).2) else (wr (aF A) (bI j) k)) → LX w K 8 A D 154 [(1, .int ((LB (aF A) (j + 1)).1)), (5, .int (b01 (wr (aF A) (bI j) k = (LB (aF A) j).2 ∧ szI (bI j) < szI (LB (aF A) j).1))), (4, .int (wr (aF A) (bI j) k)), (3, .int (bI j)), (2, .int ((LB (aF A) j).2)), (0, .ref (w.2.2 0))] [.int v154] := by
                      intro v154 hv154
                      refine l_as ((LB (aF A) (j + 1)).2) (hv154.trans (lb_2 (by omega))) ?_
                      refine l_istore_n (pc := 154) (L' := [(2, .int ((LB (aF A) (j + 1)).2)), (1, .int ((LB (aF A) (j + 1)).1)), (5, .int (b01 (wr (aF A) (bI j) k = (LB (aF A) j).2 ∧ szI (bI j) < szI (LB (aF A) j).1))), (4, .int (wr (aF A) (bI j) k)), (3, .int (bI j)), (0, .ref (w.2.2 0))]) hc dL_isBound_154 (by decide) rfl ?_
                      refine l_iinc (pc := 155) (L' := [(3, .int (bI (j + 1))), (2, .int ((LB (aF A) (j + 1)).2)), (1, .int ((LB (aF A) (j + 1)).1)), (5, .int (b01 (wr (aF A) (bI j) k = (LB (aF A) j).2 ∧ szI (bI j) < szI (LB (aF A) j).1))), (4, .int (wr (aF A) (bI j) k)), (0, .ref (w.2.2 0))]) hc dL_isBound_155 4 rfl (bI (j + 1)) (bI_1 j) (by decide) rfl ?_
                      refine l_goto (pc := 158) hc dL_isBound_158 8 (by decide) ?_
                      refine l_loc [0, 1, 2, 5] rfl ?_
                      exact ih8 (j + 1) (by omega) (by omega) (by omega)
                    refine l_icmp_ge (pc := 145) hc dL_isBound_145 153 (by decide) (fun c145 => ?_) (fun c145 => ?_)
                    · refine l_iload_n (pc := 153) hc dL_isBound_153 4 rfl ?_
                      exact j154 _ (by rw [if_pos c145])
                    · refine l_iload (pc := 148) hc dL_isBound_148 2 rfl ?_
                      refine l_goto (pc := 150) hc dL_isBound_150 154 (by decide) ?_
                      exact j154 _ (by rw [if_neg c145])
                  refine l_icmp_lt (pc := 128) hc dL_isBound_128 136 (by decide) (fun c128 => ?_) (fun c128 => ?_)
                  · refine l_iload_n (pc := 136) hc dL_isBound_136 2 rfl ?_
                    refine l_goto (pc := 137) hc dL_isBound_137 141 (by decide) ?_
                    exact j141 _ (by rw [if_pos c128])
                  · refine l_iload (pc := 131) hc dL_isBound_131 0 rfl ?_
                    refine l_if_eq (pc := 133) hc dL_isBound_133 140 (by decide) (fun c133 => ?_) (fun c133 => ?_)
                    · refine l_iload_n (pc := 140) hc dL_isBound_140 4 rfl ?_
                      exact j141 _ (by rw [if_neg c128, if_pos c133])
                    · refine l_iload_n (pc := 136) hc dL_isBound_136 2 rfl ?_
                      refine l_goto (pc := 137) hc dL_isBound_137 141 (by decide) ?_
                      exact j141 _ (by rw [if_neg c128, if_neg c133])
                refine l_icmp_ne (pc := 104) hc dL_isBound_104 122 (by decide) (fun c104 => ?_) (fun c104 => ?_)
                · refine l_iconst (v := 0) (pc := 122) hc dL_isBound_122 (by decide) ?_
                  exact j123 _ (by rw [if_neg c104])
                · refine l_iload_n (pc := 107) hc dL_isBound_107 2 rfl ?_
                  refine l_s (pc := 108) hc cl_L_26 [.int (bI j)] (l_size hI (kl K) A D (bI j)) rfl rfl (by simp [Value.category]) rfl rfl ⟨by decide, by decide⟩ dL_isBound_108 (fun r108 Aa108 Da108 q108 => ?_)
                  obtain ⟨er108, eAa108, eDa108⟩ := q108
                  rw [eAa108, eDa108]
                  subst er108
                  refine l_iload_n (pc := 111) hc dL_isBound_111 4 rfl ?_
                  refine l_s (pc := 112) hc cl_L_26 [.int ((LB (aF A) j).1)] (l_size hI (kl K) A D ((LB (aF A) j).1)) rfl rfl (by simp [Value.category]) rfl rfl ⟨by decide, by decide⟩ dL_isBound_112 (fun r112 Aa112 Da112 q112 => ?_)
                  obtain ⟨er112, eAa112, eDa112⟩ := q112
                  rw [eAa112, eDa112]
                  subst er112
                  refine l_icmp_ge (pc := 115) hc dL_isBound_115 122 (by decide) (fun c115 => ?_) (fun c115 => ?_)
                  · refine l_iconst (v := 0) (pc := 122) hc dL_isBound_122 (by decide) ?_
                    exact j123 _ (by rw [if_pos c104, if_pos c115])
                  · refine l_iconst (v := 1) (pc := 118) hc dL_isBound_118 (by decide) ?_
                    refine l_goto (pc := 119) hc dL_isBound_119 123 (by decide) ?_
                    exact j123 _ (by rw [if_pos c104, if_neg c115])
              · have oc32 := c32
                have c32 : ¬ 20 ≤ k := fun h9 => c32 ((nI_leI (a := 20) (b := k) (by omega) (by omega)).mpr h9)
                refine l_aload_n (pc := 35) hc dL_isBound_35 5 rfl ?_
                refine l_iconst (v := 0) (pc := 36) hc dL_isBound_36 (by decide) ?_
                refine l_iload (pc := 37) hc dL_isBound_37 0 rfl ?_
                refine l_iconst (v := 0) (pc := 39) hc dL_isBound_39 (by decide) ?_
                refine l_q (pc := 40) hc cl_L_29 rfl [.int 0, .int (nI k), .int 0] (fun G hG9 => C_past hI (kl K) G 0 (nI k) 0 A B hG9 hV hZ hB) rfl rfl (by simp [Value.category]) rfl rfl ⟨by decide, by decide⟩ dL_isBound_40 ?_
                refine l_as (aF A (60 + k) + 1000) (qp0_0 A (d := k) (by omega) (by omega)) ?_
                refine l_istore (pc := 43) (L' := [(6, .int (aF A (60 + k) + 1000)), (5, .int (nI k)), (4, .int (wr (aF A) (bI j) k)), (3, .int (bI j)), (2, .int ((LB (aF A) j).2)), (1, .int ((LB (aF A) j).1)), (0, .ref (w.2.2 0))]) hc dL_isBound_43 (by decide) rfl ?_
                refine l_iload (pc := 45) hc dL_isBound_45 0 rfl ?_
                refine l_aload_n (pc := 47) hc dL_isBound_47 6 rfl ?_
                refine l_iconst (v := 0) (pc := 48) hc dL_isBound_48 (by decide) ?_
                refine l_iload (pc := 49) hc dL_isBound_49 1 rfl ?_
                refine l_iconst (v := 1) (pc := 51) hc dL_isBound_51 (by decide) ?_
                refine l_q (pc := 52) hc cl_L_29 rfl [.int 0, .int (nI k), .int 1] (fun G hG9 => C_past hI (kl K) G 0 (nI k) 1 A B hG9 hV hZ hB) rfl rfl (by simp [Value.category]) rfl rfl ⟨by decide, by decide⟩ dL_isBound_52 ?_
                refine l_as (aF A (80 + k) + 1000) (qp0_1 A (d := k) (by omega) (by omega)) ?_
                refine l_isub (pc := 55) hc dL_isBound_55 ?_
                refine l_as (aF A (60 + k) - aF A (80 + k)) (i32_cc _ _ _) ?_
                refine l_iload_n (pc := 56) hc dL_isBound_56 3 rfl ?_
                have j65 : ∀ v65 : Int32, v65 = (if (bI j) < (aF A (60 + k) - aF A (80 + k)) then 0 else 1) → LX w K 8 A D 65 [(6, .int (aF A (60 + k) + 1000)), (5, .int (nI k)), (4, .int (wr (aF A) (bI j) k)), (3, .int (bI j)), (2, .int ((LB (aF A) j).2)), (1, .int ((LB (aF A) j).1)), (0, .ref (w.2.2 0))] [.int v65] := by
                  intro v65 hv65
                  refine l_as (b01 (aF A (60 + k) - aF A (80 + k) ≤ bI j)) (hv65.trans (b01_gt _ _)) ?_
                  refine l_istore (pc := 65) (L' := [(7, .int (b01 (aF A (60 + k) - aF A (80 + k) ≤ bI j))), (6, .int (aF A (60 + k) + 1000)), (5, .int (nI k)), (4, .int (wr (aF A) (bI j) k)), (3, .int (bI j)), (2, .int ((LB (aF A) j).2)), (1, .int ((LB (aF A) j).1)), (0, .ref (w.2.2 0))]) hc dL_isBound_65 (by decide) rfl ?_
                  refine l_iload (pc := 67) hc dL_isBound_67 3 rfl ?_
                  refine l_iload (pc := 69) hc dL_isBound_69 0 rfl ?_
                  refine l_iload (pc := 71) hc dL_isBound_71 1 rfl ?_
                  refine l_sipush (v := 1000) (pc := 73) hc dL_isBound_73 (by decide) ?_
                  have j84 : ∀ v84 : Int32, v84 = (if 1000 < (aF A (60 + k) + 1000) then 0 else 1) → LX w K 8 A D 84 [(7, .int (b01 (aF A (60 + k) - aF A (80 + k) ≤ bI j))), (6, .int (aF A (60 + k) + 1000)), (5, .int (nI k)), (4, .int (wr (aF A) (bI j) k)), (3, .int (bI j)), (2, .int ((LB (aF A) j).2)), (1, .int ((LB (aF A) j).1)), (0, .ref (w.2.2 0))] [.int v84, .int (b01 (aF A (60 + k) - aF A (80 + k) ≤ bI j)), .int (wr (aF A) (bI j) k)] := by
                    intro v84 hv84
                    refine l_as (b01 (aF A (60 + k) ≤ 0)) (hv84.trans (frost_eq (by have h9 := (hG.2.2 0 (by omega) k (by omega)).1; rw [show 60 + 60 * 0 + k = 60 + k by omega] at h9; exact h9))) ?_
                    have j92 : ∀ v92 : Int32, v92 = (if (b01 (aF A (60 + k) - aF A (80 + k) ≤ bI j)) = (b01 (aF A (60 + k) ≤ 0)) then 0 else 1) → LX w K 8 A D 92 [(7, .int (b01 (aF A (60 + k) - aF A (80 + k) ≤ bI j))), (6, .int (aF A (60 + k) + 1000)), (5, .int (nI k)), (4, .int (wr (aF A) (bI j) k)), (3, .int (bI j)), (2, .int ((LB (aF A) j).2)), (1, .int ((LB (aF A) j).1)), (0, .ref (w.2.2 0))] [.int v92, .int (wr (aF A) (bI j) k)] := by
                      intro v92 hv92
                      refine l_as (if b01 (aF A (60 + k) - aF A (80 + k) ≤ bI j) = b01 (aF A (60 + k) ≤ 0) then 0 else 1) hv92 ?_
                      refine l_iadd (pc := 92) hc dL_isBound_92 ?_
                      refine l_istore (pc := 93) (L' := [(4, .int ((wr (aF A) (bI j) k) + (if b01 (aF A (60 + k) - aF A (80 + k) ≤ bI j) = b01 (aF A (60 + k) ≤ 0) then 0 else 1))), (7, .int (b01 (aF A (60 + k) - aF A (80 + k) ≤ bI j))), (6, .int (aF A (60 + k) + 1000)), (5, .int (nI k)), (3, .int (bI j)), (2, .int ((LB (aF A) j).2)), (1, .int ((LB (aF A) j).1)), (0, .ref (w.2.2 0))]) hc dL_isBound_93 (by decide) rfl ?_
                      refine l_iinc (pc := 95) (L' := [(5, .int (nI (k + 1))), (4, .int ((wr (aF A) (bI j) k) + (if b01 (aF A (60 + k) - aF A (80 + k) ≤ bI j) = b01 (aF A (60 + k) ≤ 0) then 0 else 1))), (7, .int (b01 (aF A (60 + k) - aF A (80 + k) ≤ bI j))), (6, .int (aF A (60 + k) + 1000)), (3, .int (bI j)), (2, .int ((LB (aF A) j).2)), (1, .int ((LB (aF A) j).1)), (0, .ref (w.2.2 0))]) hc dL_isBound_95 3 rfl (nI (k + 1)) (nI_1 _) (by decide) rfl ?_
                      refine l_goto (pc := 98) hc dL_isBound_98 28 (by decide) ?_
                      refine l_loc [0, 1, 4, 5, 6, 7] rfl ?_
                      exact ih28 (k + 1) (by omega) (by omega)
                    refine l_icmp_ne (pc := 84) hc dL_isBound_84 91 (by decide) (fun c84 => ?_) (fun c84 => ?_)
                    · refine l_iconst (v := 1) (pc := 91) hc dL_isBound_91 (by decide) ?_
                      exact j92 _ (by rw [if_neg c84])
                    · refine l_iconst (v := 0) (pc := 87) hc dL_isBound_87 (by decide) ?_
                      refine l_goto (pc := 88) hc dL_isBound_88 92 (by decide) ?_
                      exact j92 _ (by rw [if_pos c84])
                  refine l_icmp_gt (pc := 76) hc dL_isBound_76 83 (by decide) (fun c76 => ?_) (fun c76 => ?_)
                  · refine l_iconst (v := 0) (pc := 83) hc dL_isBound_83 (by decide) ?_
                    exact j84 _ (by rw [if_pos c76])
                  · refine l_iconst (v := 1) (pc := 79) hc dL_isBound_79 (by decide) ?_
                    refine l_goto (pc := 80) hc dL_isBound_80 84 (by decide) ?_
                    exact j84 _ (by rw [if_neg c76])
                refine l_icmp_gt (pc := 57) hc dL_isBound_57 64 (by decide) (fun c57 => ?_) (fun c57 => ?_)
                · refine l_iconst (v := 0) (pc := 64) hc dL_isBound_64 (by decide) ?_
                  exact j65 _ (by rw [if_pos c57])
                · refine l_iconst (v := 1) (pc := 60) hc dL_isBound_60 (by decide) ?_
                  refine l_goto (pc := 61) hc dL_isBound_61 65 (by decide) ?_
                  exact j65 _ (by rw [if_neg c57])
          refine l_loc [0, 1, 2, 3, 4, 5] rfl ?_
          exact loop28 21 0 (by omega) (by omega)
  refine l_loc [0, 1, 2, 3] rfl ?_
  exact loop8 42 0 (by omega) (by omega) (by omega)
