def LX (w : WT) (K : KT) (b L : Nat) (xs : Nat → Int32) : Prop := CX w K cL_law 8 RL room_1 ∧ va_X b L xs (ks K) (ks K).heap ∧ b < (ks K).heap.size ∧ ¬ xA w b ∧ xZ w (ks K) (ks K).heap
abbrev LOC (w : WT) (b i : Nat) : List (Nat × Value) := [(3, .int (nI i)), (2, .ref (w.2.2 239)), (1, .ref (w.2.2 0)), (0, .ref b)]
set_option maxHeartbeats 4000000 in
set_option maxRecDepth 100000 in
theorem law_0 {w : WT} (hI : xI w) {K : KT} {b L : Nat} {xs : Nat → Int32} (hx : LX w K b L xs) {G : GS} {B i : Nat} (hV : INV G B) (hB : B + 7000 < 2 ^ 30) (hi : i + 4 < L) (hL : L ≤ 2560) (kk : ∀ G2, INV G2 (B + 7000) → XX w K 8 G2 851 (LOC w b i) []) : XX w K 8 G 148 (LOC w b i) [] := by
  obtain ⟨hc, hX, hbl, hbA, hZ⟩ := id hx
  obtain ⟨hV1, hV2, hV3⟩ := id hV
  refine x_aload_n (pc := 148) hc dL_law_148 2 rfl ?_
  refine x_aload_n (pc := 149) hc dL_law_149 3 rfl ?_
  refine x_iload_n (pc := 150) hc dL_law_150 0 rfl ?_
  refine x_iconst (v := nI 1) (pc := 151) hc dL_law_151 (by decide) ?_
  refine x_iadd (pc := 152) hc dL_law_152 (x_as (nI (i + 1)) (nI_add _ _) ?_)
  refine x_sld (pc := 153) hc hX hbl hbA (vp_in_nI (by omega) (by omega)) (xs (i + 1)) (by rw [nI_clamp (by omega)]) dL_law_153 ?_
  refine x_callVi (pc := 154) hc cl_L_13 cfM kcX5 [.int (xs (i + 1))] (C_measure hI (kl K) G (xs (i + 1)) (aOf G) B hV1 hV2.1 hV2.2 (by omega)) rfl rfl (by simp [Value.category]) rfl rfl ⟨by decide, by decide⟩ dL_law_154 (fun r1 G1 q1 => ?_)
  obtain ⟨e1, p1⟩ := q1
  obtain ⟨m1, m2, m3⟩ := inv_C hV p1
  refine x_aload_n (pc := 157) hc dL_law_157 1 rfl ?_
  refine x_aload_n (pc := 158) hc dL_law_158 3 rfl ?_
  refine x_iload_n (pc := 159) hc dL_law_159 0 rfl ?_
  refine x_iconst (v := nI 1) (pc := 160) hc dL_law_160 (by decide) ?_
  refine x_iadd (pc := 161) hc dL_law_161 (x_as (nI (i + 1)) (nI_add _ _) ?_)
  refine x_sld (pc := 162) hc hX hbl hbA (vp_in_nI (by omega) (by omega)) (xs (i + 1)) (by rw [nI_clamp (by omega)]) dL_law_162 ?_
  refine x_callVi (pc := 163) hc cl_L_17 cfR kcX6 [.int (xs (i + 1))] (M_measure hI (kl K) G1 (xs (i + 1)) B m1 m3) rfl rfl (by simp [Value.category]) rfl rfl ⟨by decide, by decide⟩ dL_law_163 (fun r2 G2 q2 => ?_)
  obtain ⟨e2, p2⟩ := q2
  rw [m2] at e2 p2
  refine x_icmp_eq (pc := 166) hc dL_law_166 851 (by decide) (fun _ => ?_) (fun z => absurd (e1.trans e2.symm) z)
  exact kk G2 (inv_step hB (V_measure hB hV2 (xs (i + 1))) p1 p2)
set_option maxHeartbeats 4000000 in
set_option maxRecDepth 100000 in
theorem law_1 {w : WT} (hI : xI w) {K : KT} {b L : Nat} {xs : Nat → Int32} (hx : LX w K b L xs) {G : GS} {B i : Nat} (hV : INV G B) (hB : B + 7000 < 2 ^ 30) (hi : i + 4 < L) (hL : L ≤ 2560) (kk : ∀ G2, INV G2 (B + 7000) → XX w K 8 G2 851 (LOC w b i) []) : XX w K 8 G 171 (LOC w b i) [] := by
  obtain ⟨hc, hX, hbl, hbA, hZ⟩ := id hx
  obtain ⟨hV1, hV2, hV3⟩ := id hV
  refine x_aload_n (pc := 171) hc dL_law_171 2 rfl ?_
  refine x_callVi (pc := 172) hc cl_L_18 cfM kcX5 [] (C_measureAll hI (kl K) G  (aOf G) B hV1 hV2.1 hV2.2 (by omega)) rfl rfl (by simp [Value.category]) rfl rfl ⟨by decide, by decide⟩ dL_law_172 (fun r1 G1 q1 => ?_)
  obtain ⟨e1, p1⟩ := q1
  obtain ⟨m1, m2, m3⟩ := inv_C hV p1
  refine x_aload_n (pc := 175) hc dL_law_175 1 rfl ?_
  refine x_callVi (pc := 176) hc cl_L_22 cfR kcX6 [] (M_measureAll hI (kl K) G1  B m1 m3 (by omega)) rfl rfl (by simp [Value.category]) rfl rfl ⟨by decide, by decide⟩ dL_law_176 (fun r2 G2 q2 => ?_)
  obtain ⟨e2, p2⟩ := q2
  rw [m2] at e2 p2
  refine x_icmp_eq (pc := 179) hc dL_law_179 851 (by decide) (fun _ => ?_) (fun z => absurd (e1.trans e2.symm) z)
  exact kk G2 (inv_step hB (V_all hB hV2) p1 p2)
set_option maxHeartbeats 4000000 in
set_option maxRecDepth 100000 in
theorem law_2 {w : WT} (hI : xI w) {K : KT} {b L : Nat} {xs : Nat → Int32} (hx : LX w K b L xs) {G : GS} {B i : Nat} (hV : INV G B) (hB : B + 7000 < 2 ^ 30) (hi : i + 4 < L) (hL : L ≤ 2560) (kk : ∀ G2, INV G2 (B + 7000) → XX w K 8 G2 851 (LOC w b i) []) : XX w K 8 G 184 (LOC w b i) [] := by
  obtain ⟨hc, hX, hbl, hbA, hZ⟩ := id hx
  obtain ⟨hV1, hV2, hV3⟩ := id hV
  refine x_aload_n (pc := 184) hc dL_law_184 2 rfl ?_
  refine x_aload_n (pc := 185) hc dL_law_185 3 rfl ?_
  refine x_iload_n (pc := 186) hc dL_law_186 0 rfl ?_
  refine x_iconst (v := nI 1) (pc := 187) hc dL_law_187 (by decide) ?_
  refine x_iadd (pc := 188) hc dL_law_188 (x_as (nI (i + 1)) (nI_add _ _) ?_)
  refine x_sld (pc := 189) hc hX hbl hbA (vp_in_nI (by omega) (by omega)) (xs (i + 1)) (by rw [nI_clamp (by omega)]) dL_law_189 ?_
  refine x_aload_n (pc := 190) hc dL_law_190 3 rfl ?_
  refine x_iload_n (pc := 191) hc dL_law_191 0 rfl ?_
  refine x_iconst (v := nI 2) (pc := 192) hc dL_law_192 (by decide) ?_
  refine x_iadd (pc := 193) hc dL_law_193 (x_as (nI (i + 2)) (nI_add _ _) ?_)
  refine x_sld (pc := 194) hc hX hbl hbA (vp_in_nI (by omega) (by omega)) (xs (i + 2)) (by rw [nI_clamp (by omega)]) dL_law_194 ?_
  refine x_callVi (pc := 195) hc cl_L_23 cfM kcX5 [.int (xs (i + 1)), .int (xs (i + 2))] (C_base hI (kl K) G (xs (i + 1)) (xs (i + 2)) (aOf G) B hV1 hV2.1 hV2.2 (by omega)) rfl rfl (by simp [Value.category]) rfl rfl ⟨by decide, by decide⟩ dL_law_195 (fun r1 G1 q1 => ?_)
  obtain ⟨e1, p1⟩ := q1
  obtain ⟨m1, m2, m3⟩ := inv_C hV p1
  refine x_aload_n (pc := 198) hc dL_law_198 1 rfl ?_
  refine x_aload_n (pc := 199) hc dL_law_199 3 rfl ?_
  refine x_iload_n (pc := 200) hc dL_law_200 0 rfl ?_
  refine x_iconst (v := nI 1) (pc := 201) hc dL_law_201 (by decide) ?_
  refine x_iadd (pc := 202) hc dL_law_202 (x_as (nI (i + 1)) (nI_add _ _) ?_)
  refine x_sld (pc := 203) hc hX hbl hbA (vp_in_nI (by omega) (by omega)) (xs (i + 1)) (by rw [nI_clamp (by omega)]) dL_law_203 ?_
  refine x_aload_n (pc := 204) hc dL_law_204 3 rfl ?_
  refine x_iload_n (pc := 205) hc dL_law_205 0 rfl ?_
  refine x_iconst (v := nI 2) (pc := 206) hc dL_law_206 (by decide) ?_
  refine x_iadd (pc := 207) hc dL_law_207 (x_as (nI (i + 2)) (nI_add _ _) ?_)
  refine x_sld (pc := 208) hc hX hbl hbA (vp_in_nI (by omega) (by omega)) (xs (i + 2)) (by rw [nI_clamp (by omega)]) dL_law_208 ?_
  refine x_callVi (pc := 209) hc cl_L_27 cfR kcX6 [.int (xs (i + 1)), .int (xs (i + 2))] (M_base hI (kl K) G1 (xs (i + 1)) (xs (i + 2)) B m1 m3) rfl rfl (by simp [Value.category]) rfl rfl ⟨by decide, by decide⟩ dL_law_209 (fun r2 G2 q2 => ?_)
  obtain ⟨e2, p2⟩ := q2
  rw [m2] at e2 p2
  refine x_icmp_eq (pc := 212) hc dL_law_212 851 (by decide) (fun _ => ?_) (fun z => absurd (e1.trans e2.symm) z)
  exact kk G2 (inv_step hB (V_base hB hV2 (xs (i + 1)) (xs (i + 2))) p1 p2)
set_option maxHeartbeats 4000000 in
set_option maxRecDepth 100000 in
theorem law_3 {w : WT} (hI : xI w) {K : KT} {b L : Nat} {xs : Nat → Int32} (hx : LX w K b L xs) {G : GS} {B i : Nat} (hV : INV G B) (hB : B + 7000 < 2 ^ 30) (hi : i + 4 < L) (hL : L ≤ 2560) (kk : ∀ G2, INV G2 (B + 7000) → XX w K 8 G2 851 (LOC w b i) []) : XX w K 8 G 217 (LOC w b i) [] := by
  obtain ⟨hc, hX, hbl, hbA, hZ⟩ := id hx
  obtain ⟨hV1, hV2, hV3⟩ := id hV
  refine x_aload_n (pc := 217) hc dL_law_217 2 rfl ?_
  refine x_aload_n (pc := 218) hc dL_law_218 3 rfl ?_
  refine x_iload_n (pc := 219) hc dL_law_219 0 rfl ?_
  refine x_iconst (v := nI 1) (pc := 220) hc dL_law_220 (by decide) ?_
  refine x_iadd (pc := 221) hc dL_law_221 (x_as (nI (i + 1)) (nI_add _ _) ?_)
  refine x_sld (pc := 222) hc hX hbl hbA (vp_in_nI (by omega) (by omega)) (xs (i + 1)) (by rw [nI_clamp (by omega)]) dL_law_222 ?_
  refine x_aload_n (pc := 223) hc dL_law_223 3 rfl ?_
  refine x_iload_n (pc := 224) hc dL_law_224 0 rfl ?_
  refine x_iconst (v := nI 2) (pc := 225) hc dL_law_225 (by decide) ?_
  refine x_iadd (pc := 226) hc dL_law_226 (x_as (nI (i + 2)) (nI_add _ _) ?_)
  refine x_sld (pc := 227) hc hX hbl hbA (vp_in_nI (by omega) (by omega)) (xs (i + 2)) (by rw [nI_clamp (by omega)]) dL_law_227 ?_
  refine x_aload_n (pc := 228) hc dL_law_228 3 rfl ?_
  refine x_iload_n (pc := 229) hc dL_law_229 0 rfl ?_
  refine x_iconst (v := nI 3) (pc := 230) hc dL_law_230 (by decide) ?_
  refine x_iadd (pc := 231) hc dL_law_231 (x_as (nI (i + 3)) (nI_add _ _) ?_)
  refine x_sld (pc := 232) hc hX hbl hbA (vp_in_nI (by omega) (by omega)) (xs (i + 3)) (by rw [nI_clamp (by omega)]) dL_law_232 ?_
  refine x_aload_n (pc := 233) hc dL_law_233 3 rfl ?_
  refine x_iload_n (pc := 234) hc dL_law_234 0 rfl ?_
  refine x_iconst (v := nI 4) (pc := 235) hc dL_law_235 (by decide) ?_
  refine x_iadd (pc := 236) hc dL_law_236 (x_as (nI (i + 4)) (nI_add _ _) ?_)
  refine x_sld (pc := 237) hc hX hbl hbA (vp_in_nI (by omega) (by omega)) (xs (i + 4)) (by rw [nI_clamp (by omega)]) dL_law_237 ?_
  refine x_callVi (pc := 238) hc cl_L_28 cfM kcX5 [.int (xs (i + 1)), .int (xs (i + 2)), .int (xs (i + 3)), .int (xs (i + 4))] (C_saint hI (kl K) G (xs (i + 1)) (xs (i + 2)) (xs (i + 3)) (xs (i + 4)) (aOf G) B hV1 hV2.1 hV2.2 (by omega)) rfl rfl (by simp [Value.category]) rfl rfl ⟨by decide, by decide⟩ dL_law_238 (fun r1 G1 q1 => ?_)
  obtain ⟨e1, p1⟩ := q1
  obtain ⟨m1, m2, m3⟩ := inv_C hV p1
  refine x_aload_n (pc := 241) hc dL_law_241 1 rfl ?_
  refine x_aload_n (pc := 242) hc dL_law_242 3 rfl ?_
  refine x_iload_n (pc := 243) hc dL_law_243 0 rfl ?_
  refine x_iconst (v := nI 1) (pc := 244) hc dL_law_244 (by decide) ?_
  refine x_iadd (pc := 245) hc dL_law_245 (x_as (nI (i + 1)) (nI_add _ _) ?_)
  refine x_sld (pc := 246) hc hX hbl hbA (vp_in_nI (by omega) (by omega)) (xs (i + 1)) (by rw [nI_clamp (by omega)]) dL_law_246 ?_
  refine x_aload_n (pc := 247) hc dL_law_247 3 rfl ?_
  refine x_iload_n (pc := 248) hc dL_law_248 0 rfl ?_
  refine x_iconst (v := nI 2) (pc := 249) hc dL_law_249 (by decide) ?_
  refine x_iadd (pc := 250) hc dL_law_250 (x_as (nI (i + 2)) (nI_add _ _) ?_)
  refine x_sld (pc := 251) hc hX hbl hbA (vp_in_nI (by omega) (by omega)) (xs (i + 2)) (by rw [nI_clamp (by omega)]) dL_law_251 ?_
  refine x_aload_n (pc := 252) hc dL_law_252 3 rfl ?_
  refine x_iload_n (pc := 253) hc dL_law_253 0 rfl ?_
  refine x_iconst (v := nI 3) (pc := 254) hc dL_law_254 (by decide) ?_
  refine x_iadd (pc := 255) hc dL_law_255 (x_as (nI (i + 3)) (nI_add _ _) ?_)
  refine x_sld (pc := 256) hc hX hbl hbA (vp_in_nI (by omega) (by omega)) (xs (i + 3)) (by rw [nI_clamp (by omega)]) dL_law_256 ?_
  refine x_aload_n (pc := 257) hc dL_law_257 3 rfl ?_
  refine x_iload_n (pc := 258) hc dL_law_258 0 rfl ?_
  refine x_iconst (v := nI 4) (pc := 259) hc dL_law_259 (by decide) ?_
  refine x_iadd (pc := 260) hc dL_law_260 (x_as (nI (i + 4)) (nI_add _ _) ?_)
  refine x_sld (pc := 261) hc hX hbl hbA (vp_in_nI (by omega) (by omega)) (xs (i + 4)) (by rw [nI_clamp (by omega)]) dL_law_261 ?_
  refine x_callVi (pc := 262) hc cl_L_32 cfR kcX6 [.int (xs (i + 1)), .int (xs (i + 2)), .int (xs (i + 3)), .int (xs (i + 4))] (M_saint hI (kl K) G1 (xs (i + 1)) (xs (i + 2)) (xs (i + 3)) (xs (i + 4)) B m1 m3) rfl rfl (by simp [Value.category]) rfl rfl ⟨by decide, by decide⟩ dL_law_262 (fun r2 G2 q2 => ?_)
  obtain ⟨e2, p2⟩ := q2
  rw [m2] at e2 p2
  refine x_icmp_eq (pc := 265) hc dL_law_265 851 (by decide) (fun _ => ?_) (fun z => absurd (e1.trans e2.symm) z)
  exact kk G2 (inv_step hB (V_saint hB hV2 (xs (i + 1)) (xs (i + 2)) (xs (i + 3)) (xs (i + 4))) p1 p2)
set_option maxHeartbeats 4000000 in
set_option maxRecDepth 100000 in
theorem law_4 {w : WT} (hI : xI w) {K : KT} {b L : Nat} {xs : Nat → Int32} (hx : LX w K b L xs) {G : GS} {B i : Nat} (hV : INV G B) (hB : B + 7000 < 2 ^ 30) (hi : i + 4 < L) (hL : L ≤ 2560) (kk : ∀ G2, INV G2 (B + 7000) → XX w K 8 G2 851 (LOC w b i) []) : XX w K 8 G 270 (LOC w b i) [] := by
  obtain ⟨hc, hX, hbl, hbA, hZ⟩ := id hx
  obtain ⟨hV1, hV2, hV3⟩ := id hV
  refine x_aload_n (pc := 270) hc dL_law_270 2 rfl ?_
  refine x_aload_n (pc := 271) hc dL_law_271 3 rfl ?_
  refine x_iload_n (pc := 272) hc dL_law_272 0 rfl ?_
  refine x_iconst (v := nI 1) (pc := 273) hc dL_law_273 (by decide) ?_
  refine x_iadd (pc := 274) hc dL_law_274 (x_as (nI (i + 1)) (nI_add _ _) ?_)
  refine x_sld (pc := 275) hc hX hbl hbA (vp_in_nI (by omega) (by omega)) (xs (i + 1)) (by rw [nI_clamp (by omega)]) dL_law_275 ?_
  refine x_callVi (pc := 276) hc cl_L_33 cfM kcX5 [.int (xs (i + 1))] (C_strike hI (kl K) G (xs (i + 1)) (aOf G) B hV1 hV2.1 hV2.2 (by omega)) rfl rfl (by simp [Value.category]) rfl rfl ⟨by decide, by decide⟩ dL_law_276 (fun r1 G1 q1 => ?_)
  obtain ⟨e1, p1⟩ := q1
  obtain ⟨m1, m2, m3⟩ := inv_C hV p1
  refine x_aload_n (pc := 279) hc dL_law_279 1 rfl ?_
  refine x_aload_n (pc := 280) hc dL_law_280 3 rfl ?_
  refine x_iload_n (pc := 281) hc dL_law_281 0 rfl ?_
  refine x_iconst (v := nI 1) (pc := 282) hc dL_law_282 (by decide) ?_
  refine x_iadd (pc := 283) hc dL_law_283 (x_as (nI (i + 1)) (nI_add _ _) ?_)
  refine x_sld (pc := 284) hc hX hbl hbA (vp_in_nI (by omega) (by omega)) (xs (i + 1)) (by rw [nI_clamp (by omega)]) dL_law_284 ?_
  refine x_callVi (pc := 285) hc cl_L_36 cfR kcX6 [.int (xs (i + 1))] (M_strike hI (kl K) G1 (xs (i + 1)) B m1 m3) rfl rfl (by simp [Value.category]) rfl rfl ⟨by decide, by decide⟩ dL_law_285 (fun r2 G2 q2 => ?_)
  obtain ⟨e2, p2⟩ := q2
  rw [m2] at e2 p2
  refine x_icmp_eq (pc := 288) hc dL_law_288 851 (by decide) (fun _ => ?_) (fun z => absurd (e1.trans e2.symm) z)
  exact kk G2 (inv_step hB (V_strike hB hV2 (xs (i + 1))) p1 p2)
set_option maxHeartbeats 4000000 in
set_option maxRecDepth 100000 in
theorem law_5 {w : WT} (hI : xI w) {K : KT} {b L : Nat} {xs : Nat → Int32} (hx : LX w K b L xs) {G : GS} {B i : Nat} (hV : INV G B) (hB : B + 7000 < 2 ^ 30) (hi : i + 4 < L) (hL : L ≤ 2560) (kk : ∀ G2, INV G2 (B + 7000) → XX w K 8 G2 851 (LOC w b i) []) : XX w K 8 G 293 (LOC w b i) [] := by
  obtain ⟨hc, hX, hbl, hbA, hZ⟩ := id hx
  obtain ⟨hV1, hV2, hV3⟩ := id hV
  refine x_aload_n (pc := 293) hc dL_law_293 2 rfl ?_
  refine x_aload_n (pc := 294) hc dL_law_294 3 rfl ?_
  refine x_iload_n (pc := 295) hc dL_law_295 0 rfl ?_
  refine x_iconst (v := nI 1) (pc := 296) hc dL_law_296 (by decide) ?_
  refine x_iadd (pc := 297) hc dL_law_297 (x_as (nI (i + 1)) (nI_add _ _) ?_)
  refine x_sld (pc := 298) hc hX hbl hbA (vp_in_nI (by omega) (by omega)) (xs (i + 1)) (by rw [nI_clamp (by omega)]) dL_law_298 ?_
  refine x_aload_n (pc := 299) hc dL_law_299 3 rfl ?_
  refine x_iload_n (pc := 300) hc dL_law_300 0 rfl ?_
  refine x_iconst (v := nI 2) (pc := 301) hc dL_law_301 (by decide) ?_
  refine x_iadd (pc := 302) hc dL_law_302 (x_as (nI (i + 2)) (nI_add _ _) ?_)
  refine x_sld (pc := 303) hc hX hbl hbA (vp_in_nI (by omega) (by omega)) (xs (i + 2)) (by rw [nI_clamp (by omega)]) dL_law_303 ?_
  refine x_callVz (pc := 304) hc cl_L_37 cfM kcX5 [.int (xs (i + 1)), .int (xs (i + 2))] (C_set hI (kl K) G (xs (i + 1)) (xs (i + 2)) (aOf G) B hV1 hV2.1 hV2.2 (by omega)) hZ rfl rfl (by simp [Value.category]) rfl rfl ⟨by decide, by decide⟩ dL_law_304 (fun r1 G1 q1 => ?_)
  obtain ⟨e1, p1⟩ := q1
  obtain ⟨m1, m2, m3⟩ := inv_C hV p1
  refine x_aload_n (pc := 307) hc dL_law_307 1 rfl ?_
  refine x_aload_n (pc := 308) hc dL_law_308 3 rfl ?_
  refine x_iload_n (pc := 309) hc dL_law_309 0 rfl ?_
  refine x_iconst (v := nI 1) (pc := 310) hc dL_law_310 (by decide) ?_
  refine x_iadd (pc := 311) hc dL_law_311 (x_as (nI (i + 1)) (nI_add _ _) ?_)
  refine x_sld (pc := 312) hc hX hbl hbA (vp_in_nI (by omega) (by omega)) (xs (i + 1)) (by rw [nI_clamp (by omega)]) dL_law_312 ?_
  refine x_aload_n (pc := 313) hc dL_law_313 3 rfl ?_
  refine x_iload_n (pc := 314) hc dL_law_314 0 rfl ?_
  refine x_iconst (v := nI 2) (pc := 315) hc dL_law_315 (by decide) ?_
  refine x_iadd (pc := 316) hc dL_law_316 (x_as (nI (i + 2)) (nI_add _ _) ?_)
  refine x_sld (pc := 317) hc hX hbl hbA (vp_in_nI (by omega) (by omega)) (xs (i + 2)) (by rw [nI_clamp (by omega)]) dL_law_317 ?_
  refine x_callVi (pc := 318) hc cl_L_40 cfR kcX6 [.int (xs (i + 1)), .int (xs (i + 2))] (M_set hI (kl K) G1 (xs (i + 1)) (xs (i + 2)) B m1 m3) rfl rfl (by simp [Value.category]) rfl rfl ⟨by decide, by decide⟩ dL_law_318 (fun r2 G2 q2 => ?_)
  obtain ⟨e2, p2⟩ := q2
  rw [m2] at e2 p2
  refine x_icmp_eq (pc := 321) hc dL_law_321 851 (by decide) (fun _ => ?_) (fun z => absurd (e1.trans e2.symm) z)
  exact kk G2 (inv_step hB (V_set hB hV2 (xs (i + 1)) (xs (i + 2))) p1 p2)
set_option maxHeartbeats 4000000 in
set_option maxRecDepth 100000 in
theorem law_6 {w : WT} (hI : xI w) {K : KT} {b L : Nat} {xs : Nat → Int32} (hx : LX w K b L xs) {G : GS} {B i : Nat} (hV : INV G B) (hB : B + 7000 < 2 ^ 30) (hi : i + 4 < L) (hL : L ≤ 2560) (kk : ∀ G2, INV G2 (B + 7000) → XX w K 8 G2 851 (LOC w b i) []) : XX w K 8 G 326 (LOC w b i) [] := by
  obtain ⟨hc, hX, hbl, hbA, hZ⟩ := id hx
  obtain ⟨hV1, hV2, hV3⟩ := id hV
  refine x_aload_n (pc := 326) hc dL_law_326 2 rfl ?_
  refine x_aload_n (pc := 327) hc dL_law_327 3 rfl ?_
  refine x_iload_n (pc := 328) hc dL_law_328 0 rfl ?_
  refine x_iconst (v := nI 1) (pc := 329) hc dL_law_329 (by decide) ?_
  refine x_iadd (pc := 330) hc dL_law_330 (x_as (nI (i + 1)) (nI_add _ _) ?_)
  refine x_sld (pc := 331) hc hX hbl hbA (vp_in_nI (by omega) (by omega)) (xs (i + 1)) (by rw [nI_clamp (by omega)]) dL_law_331 ?_
  refine x_aload_n (pc := 332) hc dL_law_332 3 rfl ?_
  refine x_iload_n (pc := 333) hc dL_law_333 0 rfl ?_
  refine x_iconst (v := nI 2) (pc := 334) hc dL_law_334 (by decide) ?_
  refine x_iadd (pc := 335) hc dL_law_335 (x_as (nI (i + 2)) (nI_add _ _) ?_)
  refine x_sld (pc := 336) hc hX hbl hbA (vp_in_nI (by omega) (by omega)) (xs (i + 2)) (by rw [nI_clamp (by omega)]) dL_law_336 ?_
  refine x_if_eq (pc := 337) hc dL_law_337 344 (by decide) (fun zc => ?_) (fun zc => ?_)
  · skip
    refine x_iconst (v := 0) (pc := 344) hc dL_law_344 (by decide) ?_
    refine x_aload_n (pc := 345) hc dL_law_345 3 rfl ?_
    refine x_iload_n (pc := 346) hc dL_law_346 0 rfl ?_
    refine x_iconst (v := nI 3) (pc := 347) hc dL_law_347 (by decide) ?_
    refine x_iadd (pc := 348) hc dL_law_348 (x_as (nI (i + 3)) (nI_add _ _) ?_)
    refine x_sld (pc := 349) hc hX hbl hbA (vp_in_nI (by omega) (by omega)) (xs (i + 3)) (by rw [nI_clamp (by omega)]) dL_law_349 ?_
    refine x_callVi (pc := 350) hc cl_L_41 cfM kcX5 [.int (xs (i + 1)), .int 0, .int (xs (i + 3))] (C_bet hI (kl K) G (xs (i + 1)) 0 (xs (i + 3)) (aOf G) B hV1 hV2.1 hV2.2 (by omega) (Or.inl rfl)) rfl rfl (by simp [Value.category]) rfl rfl ⟨by decide, by decide⟩ dL_law_350 (fun r1 G1 q1 => ?_)
    obtain ⟨e1, p1⟩ := q1
    obtain ⟨m1, m2, m3⟩ := inv_C hV p1
    refine x_aload_n (pc := 353) hc dL_law_353 1 rfl ?_
    refine x_aload_n (pc := 354) hc dL_law_354 3 rfl ?_
    refine x_iload_n (pc := 355) hc dL_law_355 0 rfl ?_
    refine x_iconst (v := nI 1) (pc := 356) hc dL_law_356 (by decide) ?_
    refine x_iadd (pc := 357) hc dL_law_357 (x_as (nI (i + 1)) (nI_add _ _) ?_)
    refine x_sld (pc := 358) hc hX hbl hbA (vp_in_nI (by omega) (by omega)) (xs (i + 1)) (by rw [nI_clamp (by omega)]) dL_law_358 ?_
    refine x_aload_n (pc := 359) hc dL_law_359 3 rfl ?_
    refine x_iload_n (pc := 360) hc dL_law_360 0 rfl ?_
    refine x_iconst (v := nI 2) (pc := 361) hc dL_law_361 (by decide) ?_
    refine x_iadd (pc := 362) hc dL_law_362 (x_as (nI (i + 2)) (nI_add _ _) ?_)
    refine x_sld (pc := 363) hc hX hbl hbA (vp_in_nI (by omega) (by omega)) (xs (i + 2)) (by rw [nI_clamp (by omega)]) dL_law_363 ?_
    refine x_if_eq (pc := 364) hc dL_law_364 371 (by decide) (fun _ => ?_) (fun z => absurd zc z)
    refine x_iconst (v := 0) (pc := 371) hc dL_law_371 (by decide) ?_
    refine x_aload_n (pc := 372) hc dL_law_372 3 rfl ?_
    refine x_iload_n (pc := 373) hc dL_law_373 0 rfl ?_
    refine x_iconst (v := nI 3) (pc := 374) hc dL_law_374 (by decide) ?_
    refine x_iadd (pc := 375) hc dL_law_375 (x_as (nI (i + 3)) (nI_add _ _) ?_)
    refine x_sld (pc := 376) hc hX hbl hbA (vp_in_nI (by omega) (by omega)) (xs (i + 3)) (by rw [nI_clamp (by omega)]) dL_law_376 ?_
    refine x_callVi (pc := 377) hc cl_L_45 cfR kcX6 [.int (xs (i + 1)), .int 0, .int (xs (i + 3))] (M_bet hI (kl K) G1 (xs (i + 1)) 0 (xs (i + 3)) (Or.inl rfl) B m1 m3) rfl rfl (by simp [Value.category]) rfl rfl ⟨by decide, by decide⟩ dL_law_377 (fun r2 G2 q2 => ?_)
    obtain ⟨e2, p2⟩ := q2
    rw [m2] at e2 p2
    refine x_icmp_eq (pc := 380) hc dL_law_380 851 (by decide) (fun _ => ?_) (fun z => absurd (e1.trans e2.symm) z)
    exact kk G2 (inv_step hB (V_bet hB hV2 (xs (i + 1)) 0 (xs (i + 3)) (Or.inl rfl)) p1 p2)
  · skip
    refine x_iconst (v := 1) (pc := 340) hc dL_law_340 (by decide) ?_
    refine x_goto (pc := 341) hc dL_law_341 345 (by decide) ?_
    refine x_aload_n (pc := 345) hc dL_law_345 3 rfl ?_
    refine x_iload_n (pc := 346) hc dL_law_346 0 rfl ?_
    refine x_iconst (v := nI 3) (pc := 347) hc dL_law_347 (by decide) ?_
    refine x_iadd (pc := 348) hc dL_law_348 (x_as (nI (i + 3)) (nI_add _ _) ?_)
    refine x_sld (pc := 349) hc hX hbl hbA (vp_in_nI (by omega) (by omega)) (xs (i + 3)) (by rw [nI_clamp (by omega)]) dL_law_349 ?_
    refine x_callVi (pc := 350) hc cl_L_41 cfM kcX5 [.int (xs (i + 1)), .int 1, .int (xs (i + 3))] (C_bet hI (kl K) G (xs (i + 1)) 1 (xs (i + 3)) (aOf G) B hV1 hV2.1 hV2.2 (by omega) (Or.inr rfl)) rfl rfl (by simp [Value.category]) rfl rfl ⟨by decide, by decide⟩ dL_law_350 (fun r1 G1 q1 => ?_)
    obtain ⟨e1, p1⟩ := q1
    obtain ⟨m1, m2, m3⟩ := inv_C hV p1
    refine x_aload_n (pc := 353) hc dL_law_353 1 rfl ?_
    refine x_aload_n (pc := 354) hc dL_law_354 3 rfl ?_
    refine x_iload_n (pc := 355) hc dL_law_355 0 rfl ?_
    refine x_iconst (v := nI 1) (pc := 356) hc dL_law_356 (by decide) ?_
    refine x_iadd (pc := 357) hc dL_law_357 (x_as (nI (i + 1)) (nI_add _ _) ?_)
    refine x_sld (pc := 358) hc hX hbl hbA (vp_in_nI (by omega) (by omega)) (xs (i + 1)) (by rw [nI_clamp (by omega)]) dL_law_358 ?_
    refine x_aload_n (pc := 359) hc dL_law_359 3 rfl ?_
    refine x_iload_n (pc := 360) hc dL_law_360 0 rfl ?_
    refine x_iconst (v := nI 2) (pc := 361) hc dL_law_361 (by decide) ?_
    refine x_iadd (pc := 362) hc dL_law_362 (x_as (nI (i + 2)) (nI_add _ _) ?_)
    refine x_sld (pc := 363) hc hX hbl hbA (vp_in_nI (by omega) (by omega)) (xs (i + 2)) (by rw [nI_clamp (by omega)]) dL_law_363 ?_
    refine x_if_eq (pc := 364) hc dL_law_364 371 (by decide) (fun z => absurd z zc) (fun _ => ?_)
    refine x_iconst (v := 1) (pc := 367) hc dL_law_367 (by decide) ?_
    refine x_goto (pc := 368) hc dL_law_368 372 (by decide) ?_
    refine x_aload_n (pc := 372) hc dL_law_372 3 rfl ?_
    refine x_iload_n (pc := 373) hc dL_law_373 0 rfl ?_
    refine x_iconst (v := nI 3) (pc := 374) hc dL_law_374 (by decide) ?_
    refine x_iadd (pc := 375) hc dL_law_375 (x_as (nI (i + 3)) (nI_add _ _) ?_)
    refine x_sld (pc := 376) hc hX hbl hbA (vp_in_nI (by omega) (by omega)) (xs (i + 3)) (by rw [nI_clamp (by omega)]) dL_law_376 ?_
    refine x_callVi (pc := 377) hc cl_L_45 cfR kcX6 [.int (xs (i + 1)), .int 1, .int (xs (i + 3))] (M_bet hI (kl K) G1 (xs (i + 1)) 1 (xs (i + 3)) (Or.inr rfl) B m1 m3) rfl rfl (by simp [Value.category]) rfl rfl ⟨by decide, by decide⟩ dL_law_377 (fun r2 G2 q2 => ?_)
    obtain ⟨e2, p2⟩ := q2
    rw [m2] at e2 p2
    refine x_icmp_eq (pc := 380) hc dL_law_380 851 (by decide) (fun _ => ?_) (fun z => absurd (e1.trans e2.symm) z)
    exact kk G2 (inv_step hB (V_bet hB hV2 (xs (i + 1)) 1 (xs (i + 3)) (Or.inr rfl)) p1 p2)
set_option maxHeartbeats 4000000 in
set_option maxRecDepth 100000 in
theorem law_7 {w : WT} (hI : xI w) {K : KT} {b L : Nat} {xs : Nat → Int32} (hx : LX w K b L xs) {G : GS} {B i : Nat} (hV : INV G B) (hB : B + 7000 < 2 ^ 30) (hi : i + 4 < L) (hL : L ≤ 2560) (kk : ∀ G2, INV G2 (B + 7000) → XX w K 8 G2 851 (LOC w b i) []) : XX w K 8 G 385 (LOC w b i) [] := by
  obtain ⟨hc, hX, hbl, hbA, hZ⟩ := id hx
  obtain ⟨hV1, hV2, hV3⟩ := id hV
  refine x_aload_n (pc := 385) hc dL_law_385 2 rfl ?_
  refine x_aload_n (pc := 386) hc dL_law_386 3 rfl ?_
  refine x_iload_n (pc := 387) hc dL_law_387 0 rfl ?_
  refine x_iconst (v := nI 1) (pc := 388) hc dL_law_388 (by decide) ?_
  refine x_iadd (pc := 389) hc dL_law_389 (x_as (nI (i + 1)) (nI_add _ _) ?_)
  refine x_sld (pc := 390) hc hX hbl hbA (vp_in_nI (by omega) (by omega)) (xs (i + 1)) (by rw [nI_clamp (by omega)]) dL_law_390 ?_
  refine x_callVi (pc := 391) hc cl_L_46 cfM kcX5 [.int (xs (i + 1))] (C_takeBack hI (kl K) G (xs (i + 1)) (aOf G) B hV1 hV2.1 hV2.2 (by omega)) rfl rfl (by simp [Value.category]) rfl rfl ⟨by decide, by decide⟩ dL_law_391 (fun r1 G1 q1 => ?_)
  obtain ⟨e1, p1⟩ := q1
  obtain ⟨m1, m2, m3⟩ := inv_C hV p1
  refine x_aload_n (pc := 394) hc dL_law_394 1 rfl ?_
  refine x_aload_n (pc := 395) hc dL_law_395 3 rfl ?_
  refine x_iload_n (pc := 396) hc dL_law_396 0 rfl ?_
  refine x_iconst (v := nI 1) (pc := 397) hc dL_law_397 (by decide) ?_
  refine x_iadd (pc := 398) hc dL_law_398 (x_as (nI (i + 1)) (nI_add _ _) ?_)
  refine x_sld (pc := 399) hc hX hbl hbA (vp_in_nI (by omega) (by omega)) (xs (i + 1)) (by rw [nI_clamp (by omega)]) dL_law_399 ?_
  refine x_callVi (pc := 400) hc cl_L_49 cfR kcX6 [.int (xs (i + 1))] (M_takeBack hI (kl K) G1 (xs (i + 1)) B m1 m3) rfl rfl (by simp [Value.category]) rfl rfl ⟨by decide, by decide⟩ dL_law_400 (fun r2 G2 q2 => ?_)
  obtain ⟨e2, p2⟩ := q2
  rw [m2] at e2 p2
  refine x_icmp_eq (pc := 403) hc dL_law_403 851 (by decide) (fun _ => ?_) (fun z => absurd (e1.trans e2.symm) z)
  exact kk G2 (inv_step hB (V_take hB hV2 (xs (i + 1))) p1 p2)
set_option maxHeartbeats 4000000 in
set_option maxRecDepth 100000 in
theorem law_8 {w : WT} (hI : xI w) {K : KT} {b L : Nat} {xs : Nat → Int32} (hx : LX w K b L xs) {G : GS} {B i : Nat} (hV : INV G B) (hB : B + 7000 < 2 ^ 30) (hi : i + 4 < L) (hL : L ≤ 2560) (kk : ∀ G2, INV G2 (B + 7000) → XX w K 8 G2 851 (LOC w b i) []) : XX w K 8 G 408 (LOC w b i) [] := by
  obtain ⟨hc, hX, hbl, hbA, hZ⟩ := id hx
  obtain ⟨hV1, hV2, hV3⟩ := id hV
  refine x_aload_n (pc := 408) hc dL_law_408 2 rfl ?_
  refine x_aload_n (pc := 409) hc dL_law_409 3 rfl ?_
  refine x_iload_n (pc := 410) hc dL_law_410 0 rfl ?_
  refine x_iconst (v := nI 1) (pc := 411) hc dL_law_411 (by decide) ?_
  refine x_iadd (pc := 412) hc dL_law_412 (x_as (nI (i + 1)) (nI_add _ _) ?_)
  refine x_sld (pc := 413) hc hX hbl hbA (vp_in_nI (by omega) (by omega)) (xs (i + 1)) (by rw [nI_clamp (by omega)]) dL_law_413 ?_
  refine x_i2c (v := ((xs (i + 1)).toUInt32 % 65536).toInt32) (pc := 414) hc dL_law_414 rfl ?_
  refine x_callVi (pc := 415) hc cl_L_50 cfM kcX5 [.int (((xs (i + 1)).toUInt32 % 65536).toInt32)] (C_type hI (kl K) G (((xs (i + 1)).toUInt32 % 65536).toInt32) (nar_char _) (aOf G) B hV1 hV2.1 hV2.2 (by omega)) rfl rfl (by simp [Value.category]) rfl rfl ⟨by decide, by decide⟩ dL_law_415 (fun r1 G1 q1 => ?_)
  obtain ⟨e1, p1⟩ := q1
  obtain ⟨m1, m2, m3⟩ := inv_C hV p1
  refine x_aload_n (pc := 418) hc dL_law_418 1 rfl ?_
  refine x_aload_n (pc := 419) hc dL_law_419 3 rfl ?_
  refine x_iload_n (pc := 420) hc dL_law_420 0 rfl ?_
  refine x_iconst (v := nI 1) (pc := 421) hc dL_law_421 (by decide) ?_
  refine x_iadd (pc := 422) hc dL_law_422 (x_as (nI (i + 1)) (nI_add _ _) ?_)
  refine x_sld (pc := 423) hc hX hbl hbA (vp_in_nI (by omega) (by omega)) (xs (i + 1)) (by rw [nI_clamp (by omega)]) dL_law_423 ?_
  refine x_i2c (v := ((xs (i + 1)).toUInt32 % 65536).toInt32) (pc := 424) hc dL_law_424 rfl ?_
  refine x_callVi (pc := 425) hc cl_L_54 cfR kcX6 [.int (((xs (i + 1)).toUInt32 % 65536).toInt32)] (M_type hI (kl K) G1 (((xs (i + 1)).toUInt32 % 65536).toInt32) B m1 m3) rfl rfl (by simp [Value.category]) rfl rfl ⟨by decide, by decide⟩ dL_law_425 (fun r2 G2 q2 => ?_)
  obtain ⟨e2, p2⟩ := q2
  rw [m2] at e2 p2
  refine x_icmp_eq (pc := 428) hc dL_law_428 851 (by decide) (fun _ => ?_) (fun z => absurd (e1.trans e2.symm) z)
  exact kk G2 (inv_step hB (V_type hV2 (((xs (i + 1)).toUInt32 % 65536).toInt32)) p1 p2)
set_option maxHeartbeats 4000000 in
set_option maxRecDepth 100000 in
theorem law_9 {w : WT} (hI : xI w) {K : KT} {b L : Nat} {xs : Nat → Int32} (hx : LX w K b L xs) {G : GS} {B i : Nat} (hV : INV G B) (hB : B + 7000 < 2 ^ 30) (hi : i + 4 < L) (hL : L ≤ 2560) (kk : ∀ G2, INV G2 (B + 7000) → XX w K 8 G2 851 (LOC w b i) []) : XX w K 8 G 433 (LOC w b i) [] := by
  obtain ⟨hc, hX, hbl, hbA, hZ⟩ := id hx
  obtain ⟨hV1, hV2, hV3⟩ := id hV
  refine x_aload_n (pc := 433) hc dL_law_433 2 rfl ?_
  refine x_callVi (pc := 434) hc cl_L_55 cfM kcX5 [] (C_clearText hI (kl K) G  (aOf G) B hV1 hV2.1 hV2.2 (by omega)) rfl rfl (by simp [Value.category]) rfl rfl ⟨by decide, by decide⟩ dL_law_434 (fun r1 G1 q1 => ?_)
  obtain ⟨e1, p1⟩ := q1
  obtain ⟨m1, m2, m3⟩ := inv_C hV p1
  refine x_aload_n (pc := 437) hc dL_law_437 1 rfl ?_
  refine x_callVi (pc := 438) hc cl_L_58 cfR kcX6 [] (M_clearText hI (kl K) G1  B m1 m3) rfl rfl (by simp [Value.category]) rfl rfl ⟨by decide, by decide⟩ dL_law_438 (fun r2 G2 q2 => ?_)
  obtain ⟨e2, p2⟩ := q2
  rw [m2] at e2 p2
  refine x_icmp_eq (pc := 441) hc dL_law_441 851 (by decide) (fun _ => ?_) (fun z => absurd (e1.trans e2.symm) z)
  exact kk G2 (inv_step hB (V_clear hV2) p1 p2)
set_option maxHeartbeats 4000000 in
set_option maxRecDepth 100000 in
theorem law_10 {w : WT} (hI : xI w) {K : KT} {b L : Nat} {xs : Nat → Int32} (hx : LX w K b L xs) {G : GS} {B i : Nat} (hV : INV G B) (hB : B + 7000 < 2 ^ 30) (hi : i + 4 < L) (hL : L ≤ 2560) (kk : ∀ G2, INV G2 (B + 7000) → XX w K 8 G2 851 (LOC w b i) []) : XX w K 8 G 446 (LOC w b i) [] := by
  obtain ⟨hc, hX, hbl, hbA, hZ⟩ := id hx
  obtain ⟨hV1, hV2, hV3⟩ := id hV
  refine x_aload_n (pc := 446) hc dL_law_446 2 rfl ?_
  refine x_callVi (pc := 447) hc cl_L_59 cfM kcX5 [] (C_fault hI (kl K) G  (aOf G) B hV1 hV2.1 hV2.2 (by omega)) rfl rfl (by simp [Value.category]) rfl rfl ⟨by decide, by decide⟩ dL_law_447 (fun r1 G1 q1 => ?_)
  obtain ⟨e1, p1⟩ := q1
  obtain ⟨m1, m2, m3⟩ := inv_C hV p1
  refine x_aload_n (pc := 450) hc dL_law_450 1 rfl ?_
  refine x_callVi (pc := 451) hc cl_L_62 cfR kcX6 [] (M_fault hI (kl K) G1  B m1 m3) rfl rfl (by simp [Value.category]) rfl rfl ⟨by decide, by decide⟩ dL_law_451 (fun r2 G2 q2 => ?_)
  obtain ⟨e2, p2⟩ := q2
  rw [m2] at e2 p2
  refine x_icmp_eq (pc := 454) hc dL_law_454 851 (by decide) (fun _ => ?_) (fun z => absurd (e1.trans e2.symm) z)
  exact kk G2 (inv_step hB (V_same hV2) p1 p2)
set_option maxHeartbeats 4000000 in
set_option maxRecDepth 100000 in
theorem law_11 {w : WT} (hI : xI w) {K : KT} {b L : Nat} {xs : Nat → Int32} (hx : LX w K b L xs) {G : GS} {B i : Nat} (hV : INV G B) (hB : B + 7000 < 2 ^ 30) (hi : i + 4 < L) (hL : L ≤ 2560) (kk : ∀ G2, INV G2 (B + 7000) → XX w K 8 G2 851 (LOC w b i) []) : XX w K 8 G 459 (LOC w b i) [] := by
  obtain ⟨hc, hX, hbl, hbA, hZ⟩ := id hx
  obtain ⟨hV1, hV2, hV3⟩ := id hV
  refine x_aload_n (pc := 459) hc dL_law_459 2 rfl ?_
  refine x_callVi (pc := 460) hc cl_L_63 cfM kcX5 [] (C_undo hI (kl K) G  (aOf G) B hV1 hV2.1 hV2.2 (by omega)) rfl rfl (by simp [Value.category]) rfl rfl ⟨by decide, by decide⟩ dL_law_460 (fun r1 G1 q1 => ?_)
  obtain ⟨e1, p1⟩ := q1
  obtain ⟨m1, m2, m3⟩ := inv_C hV p1
  refine x_aload_n (pc := 463) hc dL_law_463 1 rfl ?_
  refine x_callVi (pc := 464) hc cl_L_66 cfR kcX6 [] (M_undo hI (kl K) G1  B m1 m3) rfl rfl (by simp [Value.category]) rfl rfl ⟨by decide, by decide⟩ dL_law_464 (fun r2 G2 q2 => ?_)
  obtain ⟨e2, p2⟩ := q2
  rw [m2] at e2 p2
  refine x_icmp_eq (pc := 467) hc dL_law_467 851 (by decide) (fun _ => ?_) (fun z => absurd (e1.trans e2.symm) z)
  exact kk G2 (inv_step hB (V_undo hV2) p1 p2)
set_option maxHeartbeats 4000000 in
set_option maxRecDepth 100000 in
theorem law_12 {w : WT} (hI : xI w) {K : KT} {b L : Nat} {xs : Nat → Int32} (hx : LX w K b L xs) {G : GS} {B i : Nat} (hV : INV G B) (hB : B + 7000 < 2 ^ 30) (hi : i + 4 < L) (hL : L ≤ 2560) (kk : ∀ G2, INV G2 (B + 7000) → XX w K 8 G2 851 (LOC w b i) []) : XX w K 8 G 472 (LOC w b i) [] := by
  obtain ⟨hc, hX, hbl, hbA, hZ⟩ := id hx
  obtain ⟨hV1, hV2, hV3⟩ := id hV
  refine x_aload_n (pc := 472) hc dL_law_472 2 rfl ?_
  refine x_callVi (pc := 473) hc cl_L_67 cfM kcX5 [] (C_keep hI (kl K) G  (aOf G) B hV1 hV2.1 hV2.2 (by omega)) rfl rfl (by simp [Value.category]) rfl rfl ⟨by decide, by decide⟩ dL_law_473 (fun r1 G1 q1 => ?_)
  obtain ⟨e1, p1⟩ := q1
  obtain ⟨m1, m2, m3⟩ := inv_C hV p1
  refine x_aload_n (pc := 476) hc dL_law_476 1 rfl ?_
  refine x_callVi (pc := 477) hc cl_L_70 cfR kcX6 [] (M_keep hI (kl K) G1  B m1 m3) rfl rfl (by simp [Value.category]) rfl rfl ⟨by decide, by decide⟩ dL_law_477 (fun r2 G2 q2 => ?_)
  obtain ⟨e2, p2⟩ := q2
  rw [m2] at e2 p2
  refine x_icmp_eq (pc := 480) hc dL_law_480 851 (by decide) (fun _ => ?_) (fun z => absurd (e1.trans e2.symm) z)
  exact kk G2 (inv_step hB (V_keep hV2) p1 p2)
set_option maxHeartbeats 4000000 in
set_option maxRecDepth 100000 in
theorem law_13 {w : WT} (hI : xI w) {K : KT} {b L : Nat} {xs : Nat → Int32} (hx : LX w K b L xs) {G : GS} {B i : Nat} (hV : INV G B) (hB : B + 7000 < 2 ^ 30) (hi : i + 4 < L) (hL : L ≤ 2560) (kk : ∀ G2, INV G2 (B + 7000) → XX w K 8 G2 851 (LOC w b i) []) : XX w K 8 G 485 (LOC w b i) [] := by
  obtain ⟨hc, hX, hbl, hbA, hZ⟩ := id hx
  obtain ⟨hV1, hV2, hV3⟩ := id hV
  refine x_aload_n (pc := 485) hc dL_law_485 2 rfl ?_
  refine x_callVi (pc := 486) hc cl_L_71 cfM kcX5 [] (C_restore hI (kl K) G  (aOf G) B hV1 hV2.1 hV2.2 (by omega)) rfl rfl (by simp [Value.category]) rfl rfl ⟨by decide, by decide⟩ dL_law_486 (fun r1 G1 q1 => ?_)
  obtain ⟨e1, p1⟩ := q1
  obtain ⟨m1, m2, m3⟩ := inv_C hV p1
  refine x_aload_n (pc := 489) hc dL_law_489 1 rfl ?_
  refine x_callVi (pc := 490) hc cl_L_74 cfR kcX6 [] (M_restore hI (kl K) G1  B m1 m3) rfl rfl (by simp [Value.category]) rfl rfl ⟨by decide, by decide⟩ dL_law_490 (fun r2 G2 q2 => ?_)
  obtain ⟨e2, p2⟩ := q2
  rw [m2] at e2 p2
  refine x_icmp_eq (pc := 493) hc dL_law_493 851 (by decide) (fun _ => ?_) (fun z => absurd (e1.trans e2.symm) z)
  exact kk G2 (inv_step hB (V_restore hV2) p1 p2)
set_option maxHeartbeats 4000000 in
set_option maxRecDepth 100000 in
theorem law_14 {w : WT} (hI : xI w) {K : KT} {b L : Nat} {xs : Nat → Int32} (hx : LX w K b L xs) {G : GS} {B i : Nat} (hV : INV G B) (hB : B + 7000 < 2 ^ 30) (hi : i + 4 < L) (hL : L ≤ 2560) (kk : ∀ G2, INV G2 (B + 7000) → XX w K 8 G2 851 (LOC w b i) []) : XX w K 8 G 498 (LOC w b i) [] := by
  obtain ⟨hc, hX, hbl, hbA, hZ⟩ := id hx
  obtain ⟨hV1, hV2, hV3⟩ := id hV
  refine x_aload_n (pc := 498) hc dL_law_498 2 rfl ?_
  refine x_aload_n (pc := 499) hc dL_law_499 3 rfl ?_
  refine x_iload_n (pc := 500) hc dL_law_500 0 rfl ?_
  refine x_iconst (v := nI 1) (pc := 501) hc dL_law_501 (by decide) ?_
  refine x_iadd (pc := 502) hc dL_law_502 (x_as (nI (i + 1)) (nI_add _ _) ?_)
  refine x_sld (pc := 503) hc hX hbl hbA (vp_in_nI (by omega) (by omega)) (xs (i + 1)) (by rw [nI_clamp (by omega)]) dL_law_503 ?_
  refine x_aload_n (pc := 504) hc dL_law_504 3 rfl ?_
  refine x_iload_n (pc := 505) hc dL_law_505 0 rfl ?_
  refine x_iconst (v := nI 2) (pc := 506) hc dL_law_506 (by decide) ?_
  refine x_iadd (pc := 507) hc dL_law_507 (x_as (nI (i + 2)) (nI_add _ _) ?_)
  refine x_sld (pc := 508) hc hX hbl hbA (vp_in_nI (by omega) (by omega)) (xs (i + 2)) (by rw [nI_clamp (by omega)]) dL_law_508 ?_
  refine x_callVi (pc := 509) hc cl_L_75 cfM kcX5 [.int (xs (i + 1)), .int (xs (i + 2))] (C_dayOf hI (kl K) G (xs (i + 1)) (xs (i + 2)) (aOf G) B hV1 hV2.1 hV2.2 (by omega)) rfl rfl (by simp [Value.category]) rfl rfl ⟨by decide, by decide⟩ dL_law_509 (fun r1 G1 q1 => ?_)
  obtain ⟨e1, p1⟩ := q1
  obtain ⟨m1, m2, m3⟩ := inv_C hV p1
  refine x_aload_n (pc := 512) hc dL_law_512 1 rfl ?_
  refine x_aload_n (pc := 513) hc dL_law_513 3 rfl ?_
  refine x_iload_n (pc := 514) hc dL_law_514 0 rfl ?_
  refine x_iconst (v := nI 1) (pc := 515) hc dL_law_515 (by decide) ?_
  refine x_iadd (pc := 516) hc dL_law_516 (x_as (nI (i + 1)) (nI_add _ _) ?_)
  refine x_sld (pc := 517) hc hX hbl hbA (vp_in_nI (by omega) (by omega)) (xs (i + 1)) (by rw [nI_clamp (by omega)]) dL_law_517 ?_
  refine x_aload_n (pc := 518) hc dL_law_518 3 rfl ?_
  refine x_iload_n (pc := 519) hc dL_law_519 0 rfl ?_
  refine x_iconst (v := nI 2) (pc := 520) hc dL_law_520 (by decide) ?_
  refine x_iadd (pc := 521) hc dL_law_521 (x_as (nI (i + 2)) (nI_add _ _) ?_)
  refine x_sld (pc := 522) hc hX hbl hbA (vp_in_nI (by omega) (by omega)) (xs (i + 2)) (by rw [nI_clamp (by omega)]) dL_law_522 ?_
  refine x_callVi (pc := 523) hc cl_L_78 cfR kcX6 [.int (xs (i + 1)), .int (xs (i + 2))] (M_dayOf hI (kl K) G1 (xs (i + 1)) (xs (i + 2)) B m1 m3) rfl rfl (by simp [Value.category]) rfl rfl ⟨by decide, by decide⟩ dL_law_523 (fun r2 G2 q2 => ?_)
  obtain ⟨e2, p2⟩ := q2
  rw [m2] at e2 p2
  refine x_icmp_eq (pc := 526) hc dL_law_526 851 (by decide) (fun _ => ?_) (fun z => absurd (e1.trans e2.symm) z)
  exact kk G2 (inv_step hB (V_same hV2) p1 p2)
set_option maxHeartbeats 4000000 in
set_option maxRecDepth 100000 in
theorem law_15 {w : WT} (hI : xI w) {K : KT} {b L : Nat} {xs : Nat → Int32} (hx : LX w K b L xs) {G : GS} {B i : Nat} (hV : INV G B) (hB : B + 7000 < 2 ^ 30) (hi : i + 4 < L) (hL : L ≤ 2560) (kk : ∀ G2, INV G2 (B + 7000) → XX w K 8 G2 851 (LOC w b i) []) : XX w K 8 G 531 (LOC w b i) [] := by
  obtain ⟨hc, hX, hbl, hbA, hZ⟩ := id hx
  obtain ⟨hV1, hV2, hV3⟩ := id hV
  refine x_aload_n (pc := 531) hc dL_law_531 2 rfl ?_
  refine x_aload_n (pc := 532) hc dL_law_532 3 rfl ?_
  refine x_iload_n (pc := 533) hc dL_law_533 0 rfl ?_
  refine x_iconst (v := nI 1) (pc := 534) hc dL_law_534 (by decide) ?_
  refine x_iadd (pc := 535) hc dL_law_535 (x_as (nI (i + 1)) (nI_add _ _) ?_)
  refine x_sld (pc := 536) hc hX hbl hbA (vp_in_nI (by omega) (by omega)) (xs (i + 1)) (by rw [nI_clamp (by omega)]) dL_law_536 ?_
  refine x_aload_n (pc := 537) hc dL_law_537 3 rfl ?_
  refine x_iload_n (pc := 538) hc dL_law_538 0 rfl ?_
  refine x_iconst (v := nI 2) (pc := 539) hc dL_law_539 (by decide) ?_
  refine x_iadd (pc := 540) hc dL_law_540 (x_as (nI (i + 2)) (nI_add _ _) ?_)
  refine x_sld (pc := 541) hc hX hbl hbA (vp_in_nI (by omega) (by omega)) (xs (i + 2)) (by rw [nI_clamp (by omega)]) dL_law_541 ?_
  refine x_aload_n (pc := 542) hc dL_law_542 3 rfl ?_
  refine x_iload_n (pc := 543) hc dL_law_543 0 rfl ?_
  refine x_iconst (v := nI 3) (pc := 544) hc dL_law_544 (by decide) ?_
  refine x_iadd (pc := 545) hc dL_law_545 (x_as (nI (i + 3)) (nI_add _ _) ?_)
  refine x_sld (pc := 546) hc hX hbl hbA (vp_in_nI (by omega) (by omega)) (xs (i + 3)) (by rw [nI_clamp (by omega)]) dL_law_546 ?_
  refine x_callVi (pc := 547) hc cl_L_79 cfM kcX5 [.int (xs (i + 1)), .int (xs (i + 2)), .int (xs (i + 3))] (C_past hI (kl K) G (xs (i + 1)) (xs (i + 2)) (xs (i + 3)) (aOf G) B hV1 hV2.1 hV2.2 (by omega)) rfl rfl (by simp [Value.category]) rfl rfl ⟨by decide, by decide⟩ dL_law_547 (fun r1 G1 q1 => ?_)
  obtain ⟨e1, p1⟩ := q1
  obtain ⟨m1, m2, m3⟩ := inv_C hV p1
  refine x_aload_n (pc := 550) hc dL_law_550 1 rfl ?_
  refine x_aload_n (pc := 551) hc dL_law_551 3 rfl ?_
  refine x_iload_n (pc := 552) hc dL_law_552 0 rfl ?_
  refine x_iconst (v := nI 1) (pc := 553) hc dL_law_553 (by decide) ?_
  refine x_iadd (pc := 554) hc dL_law_554 (x_as (nI (i + 1)) (nI_add _ _) ?_)
  refine x_sld (pc := 555) hc hX hbl hbA (vp_in_nI (by omega) (by omega)) (xs (i + 1)) (by rw [nI_clamp (by omega)]) dL_law_555 ?_
  refine x_aload_n (pc := 556) hc dL_law_556 3 rfl ?_
  refine x_iload_n (pc := 557) hc dL_law_557 0 rfl ?_
  refine x_iconst (v := nI 2) (pc := 558) hc dL_law_558 (by decide) ?_
  refine x_iadd (pc := 559) hc dL_law_559 (x_as (nI (i + 2)) (nI_add _ _) ?_)
  refine x_sld (pc := 560) hc hX hbl hbA (vp_in_nI (by omega) (by omega)) (xs (i + 2)) (by rw [nI_clamp (by omega)]) dL_law_560 ?_
  refine x_aload_n (pc := 561) hc dL_law_561 3 rfl ?_
  refine x_iload_n (pc := 562) hc dL_law_562 0 rfl ?_
  refine x_iconst (v := nI 3) (pc := 563) hc dL_law_563 (by decide) ?_
  refine x_iadd (pc := 564) hc dL_law_564 (x_as (nI (i + 3)) (nI_add _ _) ?_)
  refine x_sld (pc := 565) hc hX hbl hbA (vp_in_nI (by omega) (by omega)) (xs (i + 3)) (by rw [nI_clamp (by omega)]) dL_law_565 ?_
  refine x_callVi (pc := 566) hc cl_L_83 cfR kcX6 [.int (xs (i + 1)), .int (xs (i + 2)), .int (xs (i + 3))] (M_past hI (kl K) G1 (xs (i + 1)) (xs (i + 2)) (xs (i + 3)) B m1 m3) rfl rfl (by simp [Value.category]) rfl rfl ⟨by decide, by decide⟩ dL_law_566 (fun r2 G2 q2 => ?_)
  obtain ⟨e2, p2⟩ := q2
  rw [m2] at e2 p2
  refine x_icmp_eq (pc := 569) hc dL_law_569 851 (by decide) (fun _ => ?_) (fun z => absurd (e1.trans e2.symm) z)
  exact kk G2 (inv_step hB (V_same hV2) p1 p2)
set_option maxHeartbeats 4000000 in
set_option maxRecDepth 100000 in
theorem law_16 {w : WT} (hI : xI w) {K : KT} {b L : Nat} {xs : Nat → Int32} (hx : LX w K b L xs) {G : GS} {B i : Nat} (hV : INV G B) (hB : B + 7000 < 2 ^ 30) (hi : i + 4 < L) (hL : L ≤ 2560) (kk : ∀ G2, INV G2 (B + 7000) → XX w K 8 G2 851 (LOC w b i) []) : XX w K 8 G 574 (LOC w b i) [] := by
  obtain ⟨hc, hX, hbl, hbA, hZ⟩ := id hx
  obtain ⟨hV1, hV2, hV3⟩ := id hV
  refine x_aload_n (pc := 574) hc dL_law_574 2 rfl ?_
  refine x_aload_n (pc := 575) hc dL_law_575 3 rfl ?_
  refine x_iload_n (pc := 576) hc dL_law_576 0 rfl ?_
  refine x_iconst (v := nI 1) (pc := 577) hc dL_law_577 (by decide) ?_
  refine x_iadd (pc := 578) hc dL_law_578 (x_as (nI (i + 1)) (nI_add _ _) ?_)
  refine x_sld (pc := 579) hc hX hbl hbA (vp_in_nI (by omega) (by omega)) (xs (i + 1)) (by rw [nI_clamp (by omega)]) dL_law_579 ?_
  refine x_aload_n (pc := 580) hc dL_law_580 3 rfl ?_
  refine x_iload_n (pc := 581) hc dL_law_581 0 rfl ?_
  refine x_iconst (v := nI 2) (pc := 582) hc dL_law_582 (by decide) ?_
  refine x_iadd (pc := 583) hc dL_law_583 (x_as (nI (i + 2)) (nI_add _ _) ?_)
  refine x_sld (pc := 584) hc hX hbl hbA (vp_in_nI (by omega) (by omega)) (xs (i + 2)) (by rw [nI_clamp (by omega)]) dL_law_584 ?_
  refine x_aload_n (pc := 585) hc dL_law_585 3 rfl ?_
  refine x_iload_n (pc := 586) hc dL_law_586 0 rfl ?_
  refine x_iconst (v := nI 3) (pc := 587) hc dL_law_587 (by decide) ?_
  refine x_iadd (pc := 588) hc dL_law_588 (x_as (nI (i + 3)) (nI_add _ _) ?_)
  refine x_sld (pc := 589) hc hX hbl hbA (vp_in_nI (by omega) (by omega)) (xs (i + 3)) (by rw [nI_clamp (by omega)]) dL_law_589 ?_
  refine x_callVi (pc := 590) hc cl_L_84 cfM kcX5 [.int (xs (i + 1)), .int (xs (i + 2)), .int (xs (i + 3))] (C_mean hI (kl K) G (xs (i + 1)) (xs (i + 2)) (xs (i + 3)) (aOf G) B hV1 hV2.1 hV2.2 (by omega)) rfl rfl (by simp [Value.category]) rfl rfl ⟨by decide, by decide⟩ dL_law_590 (fun r1 G1 q1 => ?_)
  obtain ⟨e1, p1⟩ := q1
  obtain ⟨m1, m2, m3⟩ := inv_C hV p1
  refine x_aload_n (pc := 593) hc dL_law_593 1 rfl ?_
  refine x_aload_n (pc := 594) hc dL_law_594 3 rfl ?_
  refine x_iload_n (pc := 595) hc dL_law_595 0 rfl ?_
  refine x_iconst (v := nI 1) (pc := 596) hc dL_law_596 (by decide) ?_
  refine x_iadd (pc := 597) hc dL_law_597 (x_as (nI (i + 1)) (nI_add _ _) ?_)
  refine x_sld (pc := 598) hc hX hbl hbA (vp_in_nI (by omega) (by omega)) (xs (i + 1)) (by rw [nI_clamp (by omega)]) dL_law_598 ?_
  refine x_aload_n (pc := 599) hc dL_law_599 3 rfl ?_
  refine x_iload_n (pc := 600) hc dL_law_600 0 rfl ?_
  refine x_iconst (v := nI 2) (pc := 601) hc dL_law_601 (by decide) ?_
  refine x_iadd (pc := 602) hc dL_law_602 (x_as (nI (i + 2)) (nI_add _ _) ?_)
  refine x_sld (pc := 603) hc hX hbl hbA (vp_in_nI (by omega) (by omega)) (xs (i + 2)) (by rw [nI_clamp (by omega)]) dL_law_603 ?_
  refine x_aload_n (pc := 604) hc dL_law_604 3 rfl ?_
  refine x_iload_n (pc := 605) hc dL_law_605 0 rfl ?_
  refine x_iconst (v := nI 3) (pc := 606) hc dL_law_606 (by decide) ?_
  refine x_iadd (pc := 607) hc dL_law_607 (x_as (nI (i + 3)) (nI_add _ _) ?_)
  refine x_sld (pc := 608) hc hX hbl hbA (vp_in_nI (by omega) (by omega)) (xs (i + 3)) (by rw [nI_clamp (by omega)]) dL_law_608 ?_
  refine x_callVi (pc := 609) hc cl_L_87 cfR kcX6 [.int (xs (i + 1)), .int (xs (i + 2)), .int (xs (i + 3))] (M_mean hI (kl K) G1 (xs (i + 1)) (xs (i + 2)) (xs (i + 3)) B m1 m3) rfl rfl (by simp [Value.category]) rfl rfl ⟨by decide, by decide⟩ dL_law_609 (fun r2 G2 q2 => ?_)
  obtain ⟨e2, p2⟩ := q2
  rw [m2] at e2 p2
  refine x_icmp_eq (pc := 612) hc dL_law_612 851 (by decide) (fun _ => ?_) (fun z => absurd (e1.trans e2.symm) z)
  exact kk G2 (inv_step hB (V_same hV2) p1 p2)
set_option maxHeartbeats 4000000 in
set_option maxRecDepth 100000 in
theorem law_17 {w : WT} (hI : xI w) {K : KT} {b L : Nat} {xs : Nat → Int32} (hx : LX w K b L xs) {G : GS} {B i : Nat} (hV : INV G B) (hB : B + 7000 < 2 ^ 30) (hi : i + 4 < L) (hL : L ≤ 2560) (kk : ∀ G2, INV G2 (B + 7000) → XX w K 8 G2 851 (LOC w b i) []) : XX w K 8 G 617 (LOC w b i) [] := by
  obtain ⟨hc, hX, hbl, hbA, hZ⟩ := id hx
  obtain ⟨hV1, hV2, hV3⟩ := id hV
  refine x_aload_n (pc := 617) hc dL_law_617 2 rfl ?_
  refine x_aload_n (pc := 618) hc dL_law_618 3 rfl ?_
  refine x_iload_n (pc := 619) hc dL_law_619 0 rfl ?_
  refine x_iconst (v := nI 1) (pc := 620) hc dL_law_620 (by decide) ?_
  refine x_iadd (pc := 621) hc dL_law_621 (x_as (nI (i + 1)) (nI_add _ _) ?_)
  refine x_sld (pc := 622) hc hX hbl hbA (vp_in_nI (by omega) (by omega)) (xs (i + 1)) (by rw [nI_clamp (by omega)]) dL_law_622 ?_
  refine x_aload_n (pc := 623) hc dL_law_623 3 rfl ?_
  refine x_iload_n (pc := 624) hc dL_law_624 0 rfl ?_
  refine x_iconst (v := nI 2) (pc := 625) hc dL_law_625 (by decide) ?_
  refine x_iadd (pc := 626) hc dL_law_626 (x_as (nI (i + 2)) (nI_add _ _) ?_)
  refine x_sld (pc := 627) hc hX hbl hbA (vp_in_nI (by omega) (by omega)) (xs (i + 2)) (by rw [nI_clamp (by omega)]) dL_law_627 ?_
  refine x_callVi (pc := 628) hc cl_L_88 cfM kcX5 [.int (xs (i + 1)), .int (xs (i + 2))] (C_saintOf hI (kl K) G (xs (i + 1)) (xs (i + 2)) (aOf G) B hV1 hV2.1 hV2.2 (by omega)) rfl rfl (by simp [Value.category]) rfl rfl ⟨by decide, by decide⟩ dL_law_628 (fun r1 G1 q1 => ?_)
  obtain ⟨e1, p1⟩ := q1
  obtain ⟨m1, m2, m3⟩ := inv_C hV p1
  refine x_aload_n (pc := 631) hc dL_law_631 1 rfl ?_
  refine x_aload_n (pc := 632) hc dL_law_632 3 rfl ?_
  refine x_iload_n (pc := 633) hc dL_law_633 0 rfl ?_
  refine x_iconst (v := nI 1) (pc := 634) hc dL_law_634 (by decide) ?_
  refine x_iadd (pc := 635) hc dL_law_635 (x_as (nI (i + 1)) (nI_add _ _) ?_)
  refine x_sld (pc := 636) hc hX hbl hbA (vp_in_nI (by omega) (by omega)) (xs (i + 1)) (by rw [nI_clamp (by omega)]) dL_law_636 ?_
  refine x_aload_n (pc := 637) hc dL_law_637 3 rfl ?_
  refine x_iload_n (pc := 638) hc dL_law_638 0 rfl ?_
  refine x_iconst (v := nI 2) (pc := 639) hc dL_law_639 (by decide) ?_
  refine x_iadd (pc := 640) hc dL_law_640 (x_as (nI (i + 2)) (nI_add _ _) ?_)
  refine x_sld (pc := 641) hc hX hbl hbA (vp_in_nI (by omega) (by omega)) (xs (i + 2)) (by rw [nI_clamp (by omega)]) dL_law_641 ?_
  refine x_callVi (pc := 642) hc cl_L_91 cfR kcX6 [.int (xs (i + 1)), .int (xs (i + 2))] (M_saintOf hI (kl K) G1 (xs (i + 1)) (xs (i + 2)) B m1 m3) rfl rfl (by simp [Value.category]) rfl rfl ⟨by decide, by decide⟩ dL_law_642 (fun r2 G2 q2 => ?_)
  obtain ⟨e2, p2⟩ := q2
  rw [m2] at e2 p2
  refine x_icmp_eq (pc := 645) hc dL_law_645 851 (by decide) (fun _ => ?_) (fun z => absurd (e1.trans e2.symm) z)
  exact kk G2 (inv_step hB (V_same hV2) p1 p2)
set_option maxHeartbeats 4000000 in
set_option maxRecDepth 100000 in
theorem law_18 {w : WT} (hI : xI w) {K : KT} {b L : Nat} {xs : Nat → Int32} (hx : LX w K b L xs) {G : GS} {B i : Nat} (hV : INV G B) (hB : B + 7000 < 2 ^ 30) (hi : i + 4 < L) (hL : L ≤ 2560) (kk : ∀ G2, INV G2 (B + 7000) → XX w K 8 G2 851 (LOC w b i) []) : XX w K 8 G 650 (LOC w b i) [] := by
  obtain ⟨hc, hX, hbl, hbA, hZ⟩ := id hx
  obtain ⟨hV1, hV2, hV3⟩ := id hV
  refine x_aload_n (pc := 650) hc dL_law_650 2 rfl ?_
  refine x_aload_n (pc := 651) hc dL_law_651 3 rfl ?_
  refine x_iload_n (pc := 652) hc dL_law_652 0 rfl ?_
  refine x_iconst (v := nI 1) (pc := 653) hc dL_law_653 (by decide) ?_
  refine x_iadd (pc := 654) hc dL_law_654 (x_as (nI (i + 1)) (nI_add _ _) ?_)
  refine x_sld (pc := 655) hc hX hbl hbA (vp_in_nI (by omega) (by omega)) (xs (i + 1)) (by rw [nI_clamp (by omega)]) dL_law_655 ?_
  refine x_aload_n (pc := 656) hc dL_law_656 3 rfl ?_
  refine x_iload_n (pc := 657) hc dL_law_657 0 rfl ?_
  refine x_iconst (v := nI 2) (pc := 658) hc dL_law_658 (by decide) ?_
  refine x_iadd (pc := 659) hc dL_law_659 (x_as (nI (i + 2)) (nI_add _ _) ?_)
  refine x_sld (pc := 660) hc hX hbl hbA (vp_in_nI (by omega) (by omega)) (xs (i + 2)) (by rw [nI_clamp (by omega)]) dL_law_660 ?_
  refine x_callVi (pc := 661) hc cl_L_92 cfM kcX5 [.int (xs (i + 1)), .int (xs (i + 2))] (C_readerOf hI (kl K) G (xs (i + 1)) (xs (i + 2)) (aOf G) B hV1 hV2.1 hV2.2 (by omega)) rfl rfl (by simp [Value.category]) rfl rfl ⟨by decide, by decide⟩ dL_law_661 (fun r1 G1 q1 => ?_)
  obtain ⟨e1, p1⟩ := q1
  obtain ⟨m1, m2, m3⟩ := inv_C hV p1
  refine x_aload_n (pc := 664) hc dL_law_664 1 rfl ?_
  refine x_aload_n (pc := 665) hc dL_law_665 3 rfl ?_
  refine x_iload_n (pc := 666) hc dL_law_666 0 rfl ?_
  refine x_iconst (v := nI 1) (pc := 667) hc dL_law_667 (by decide) ?_
  refine x_iadd (pc := 668) hc dL_law_668 (x_as (nI (i + 1)) (nI_add _ _) ?_)
  refine x_sld (pc := 669) hc hX hbl hbA (vp_in_nI (by omega) (by omega)) (xs (i + 1)) (by rw [nI_clamp (by omega)]) dL_law_669 ?_
  refine x_aload_n (pc := 670) hc dL_law_670 3 rfl ?_
  refine x_iload_n (pc := 671) hc dL_law_671 0 rfl ?_
  refine x_iconst (v := nI 2) (pc := 672) hc dL_law_672 (by decide) ?_
  refine x_iadd (pc := 673) hc dL_law_673 (x_as (nI (i + 2)) (nI_add _ _) ?_)
  refine x_sld (pc := 674) hc hX hbl hbA (vp_in_nI (by omega) (by omega)) (xs (i + 2)) (by rw [nI_clamp (by omega)]) dL_law_674 ?_
  refine x_callVi (pc := 675) hc cl_L_95 cfR kcX6 [.int (xs (i + 1)), .int (xs (i + 2))] (M_readerOf hI (kl K) G1 (xs (i + 1)) (xs (i + 2)) B m1 m3) rfl rfl (by simp [Value.category]) rfl rfl ⟨by decide, by decide⟩ dL_law_675 (fun r2 G2 q2 => ?_)
  obtain ⟨e2, p2⟩ := q2
  rw [m2] at e2 p2
  refine x_icmp_eq (pc := 678) hc dL_law_678 851 (by decide) (fun _ => ?_) (fun z => absurd (e1.trans e2.symm) z)
  exact kk G2 (inv_step hB (V_same hV2) p1 p2)
set_option maxHeartbeats 4000000 in
set_option maxRecDepth 100000 in
theorem law_19 {w : WT} (hI : xI w) {K : KT} {b L : Nat} {xs : Nat → Int32} (hx : LX w K b L xs) {G : GS} {B i : Nat} (hV : INV G B) (hB : B + 7000 < 2 ^ 30) (hi : i + 4 < L) (hL : L ≤ 2560) (kk : ∀ G2, INV G2 (B + 7000) → XX w K 8 G2 851 (LOC w b i) []) : XX w K 8 G 683 (LOC w b i) [] := by
  obtain ⟨hc, hX, hbl, hbA, hZ⟩ := id hx
  obtain ⟨hV1, hV2, hV3⟩ := id hV
  refine x_aload_n (pc := 683) hc dL_law_683 2 rfl ?_
  refine x_aload_n (pc := 684) hc dL_law_684 3 rfl ?_
  refine x_iload_n (pc := 685) hc dL_law_685 0 rfl ?_
  refine x_iconst (v := nI 1) (pc := 686) hc dL_law_686 (by decide) ?_
  refine x_iadd (pc := 687) hc dL_law_687 (x_as (nI (i + 1)) (nI_add _ _) ?_)
  refine x_sld (pc := 688) hc hX hbl hbA (vp_in_nI (by omega) (by omega)) (xs (i + 1)) (by rw [nI_clamp (by omega)]) dL_law_688 ?_
  refine x_callVi (pc := 689) hc cl_L_96 cfM kcX5 [.int (xs (i + 1))] (C_count hI (kl K) G (xs (i + 1)) (aOf G) B hV1 hV2.1 hV2.2 (by omega)) rfl rfl (by simp [Value.category]) rfl rfl ⟨by decide, by decide⟩ dL_law_689 (fun r1 G1 q1 => ?_)
  obtain ⟨e1, p1⟩ := q1
  obtain ⟨m1, m2, m3⟩ := inv_C hV p1
  refine x_aload_n (pc := 692) hc dL_law_692 1 rfl ?_
  refine x_aload_n (pc := 693) hc dL_law_693 3 rfl ?_
  refine x_iload_n (pc := 694) hc dL_law_694 0 rfl ?_
  refine x_iconst (v := nI 1) (pc := 695) hc dL_law_695 (by decide) ?_
  refine x_iadd (pc := 696) hc dL_law_696 (x_as (nI (i + 1)) (nI_add _ _) ?_)
  refine x_sld (pc := 697) hc hX hbl hbA (vp_in_nI (by omega) (by omega)) (xs (i + 1)) (by rw [nI_clamp (by omega)]) dL_law_697 ?_
  refine x_callVi (pc := 698) hc cl_L_99 cfR kcX6 [.int (xs (i + 1))] (M_count hI (kl K) G1 (xs (i + 1)) B m1 m3) rfl rfl (by simp [Value.category]) rfl rfl ⟨by decide, by decide⟩ dL_law_698 (fun r2 G2 q2 => ?_)
  obtain ⟨e2, p2⟩ := q2
  rw [m2] at e2 p2
  refine x_icmp_eq (pc := 701) hc dL_law_701 851 (by decide) (fun _ => ?_) (fun z => absurd (e1.trans e2.symm) z)
  exact kk G2 (inv_step hB (V_same hV2) p1 p2)
set_option maxHeartbeats 4000000 in
set_option maxRecDepth 100000 in
theorem law_21 {w : WT} (hI : xI w) {K : KT} {b L : Nat} {xs : Nat → Int32} (hx : LX w K b L xs) {G : GS} {B i : Nat} (hV : INV G B) (hB : B + 7000 < 2 ^ 30) (hi : i + 4 < L) (hL : L ≤ 2560) (kk : ∀ G2, INV G2 (B + 7000) → XX w K 8 G2 851 (LOC w b i) []) : XX w K 8 G 749 (LOC w b i) [] := by
  obtain ⟨hc, hX, hbl, hbA, hZ⟩ := id hx
  obtain ⟨hV1, hV2, hV3⟩ := id hV
  refine x_aload_n (pc := 749) hc dL_law_749 2 rfl ?_
  refine x_aload_n (pc := 750) hc dL_law_750 3 rfl ?_
  refine x_iload_n (pc := 751) hc dL_law_751 0 rfl ?_
  refine x_iconst (v := nI 1) (pc := 752) hc dL_law_752 (by decide) ?_
  refine x_iadd (pc := 753) hc dL_law_753 (x_as (nI (i + 1)) (nI_add _ _) ?_)
  refine x_sld (pc := 754) hc hX hbl hbA (vp_in_nI (by omega) (by omega)) (xs (i + 1)) (by rw [nI_clamp (by omega)]) dL_law_754 ?_
  refine x_callVi (pc := 755) hc cl_L_105 cfM kcX5 [.int (xs (i + 1))] (C_nextBase hI (kl K) G (xs (i + 1)) (aOf G) B hV1 hV2.1 hV2.2 (by omega)) rfl rfl (by simp [Value.category]) rfl rfl ⟨by decide, by decide⟩ dL_law_755 (fun r1 G1 q1 => ?_)
  obtain ⟨e1, p1⟩ := q1
  obtain ⟨m1, m2, m3⟩ := inv_C hV p1
  refine x_aload_n (pc := 758) hc dL_law_758 1 rfl ?_
  refine x_aload_n (pc := 759) hc dL_law_759 3 rfl ?_
  refine x_iload_n (pc := 760) hc dL_law_760 0 rfl ?_
  refine x_iconst (v := nI 1) (pc := 761) hc dL_law_761 (by decide) ?_
  refine x_iadd (pc := 762) hc dL_law_762 (x_as (nI (i + 1)) (nI_add _ _) ?_)
  refine x_sld (pc := 763) hc hX hbl hbA (vp_in_nI (by omega) (by omega)) (xs (i + 1)) (by rw [nI_clamp (by omega)]) dL_law_763 ?_
  refine x_callVi (pc := 764) hc cl_L_108 cfR kcX6 [.int (xs (i + 1))] (M_nextBase hI (kl K) G1 (xs (i + 1)) B m1 m3) rfl rfl (by simp [Value.category]) rfl rfl ⟨by decide, by decide⟩ dL_law_764 (fun r2 G2 q2 => ?_)
  obtain ⟨e2, p2⟩ := q2
  rw [m2] at e2 p2
  refine x_icmp_eq (pc := 767) hc dL_law_767 851 (by decide) (fun _ => ?_) (fun z => absurd (e1.trans e2.symm) z)
  exact kk G2 (inv_step hB (V_same hV2) p1 p2)
set_option maxHeartbeats 4000000 in
set_option maxRecDepth 100000 in
theorem law_22 {w : WT} (hI : xI w) {K : KT} {b L : Nat} {xs : Nat → Int32} (hx : LX w K b L xs) {G : GS} {B i : Nat} (hV : INV G B) (hB : B + 7000 < 2 ^ 30) (hi : i + 4 < L) (hL : L ≤ 2560) (kk : ∀ G2, INV G2 (B + 7000) → XX w K 8 G2 851 (LOC w b i) []) : XX w K 8 G 772 (LOC w b i) [] := by
  obtain ⟨hc, hX, hbl, hbA, hZ⟩ := id hx
  obtain ⟨hV1, hV2, hV3⟩ := id hV
  refine x_aload_n (pc := 772) hc dL_law_772 2 rfl ?_
  refine x_aload_n (pc := 773) hc dL_law_773 3 rfl ?_
  refine x_iload_n (pc := 774) hc dL_law_774 0 rfl ?_
  refine x_iconst (v := nI 1) (pc := 775) hc dL_law_775 (by decide) ?_
  refine x_iadd (pc := 776) hc dL_law_776 (x_as (nI (i + 1)) (nI_add _ _) ?_)
  refine x_sld (pc := 777) hc hX hbl hbA (vp_in_nI (by omega) (by omega)) (xs (i + 1)) (by rw [nI_clamp (by omega)]) dL_law_777 ?_
  refine x_callVi (pc := 778) hc cl_L_109 cfM kcX5 [.int (xs (i + 1))] (C_bestBound hI (kl K) G (xs (i + 1)) (aOf G) B hV1 hV2.1 hV2.2 (by omega)) rfl rfl (by simp [Value.category]) rfl rfl ⟨by decide, by decide⟩ dL_law_778 (fun r1 G1 q1 => ?_)
  obtain ⟨e1, p1⟩ := q1
  obtain ⟨m1, m2, m3⟩ := inv_C hV p1
  refine x_aload_n (pc := 781) hc dL_law_781 1 rfl ?_
  refine x_aload_n (pc := 782) hc dL_law_782 3 rfl ?_
  refine x_iload_n (pc := 783) hc dL_law_783 0 rfl ?_
  refine x_iconst (v := nI 1) (pc := 784) hc dL_law_784 (by decide) ?_
  refine x_iadd (pc := 785) hc dL_law_785 (x_as (nI (i + 1)) (nI_add _ _) ?_)
  refine x_sld (pc := 786) hc hX hbl hbA (vp_in_nI (by omega) (by omega)) (xs (i + 1)) (by rw [nI_clamp (by omega)]) dL_law_786 ?_
  refine x_callVi (pc := 787) hc cl_L_112 cfR kcX6 [.int (xs (i + 1))] (M_bestBound hI (kl K) G1 (xs (i + 1)) B m1 m3) rfl rfl (by simp [Value.category]) rfl rfl ⟨by decide, by decide⟩ dL_law_787 (fun r2 G2 q2 => ?_)
  obtain ⟨e2, p2⟩ := q2
  rw [m2] at e2 p2
  refine x_icmp_eq (pc := 790) hc dL_law_790 851 (by decide) (fun _ => ?_) (fun z => absurd (e1.trans e2.symm) z)
  exact kk G2 (inv_step hB (V_same hV2) p1 p2)
set_option maxHeartbeats 4000000 in
set_option maxRecDepth 100000 in
theorem law_23 {w : WT} (hI : xI w) {K : KT} {b L : Nat} {xs : Nat → Int32} (hx : LX w K b L xs) {G : GS} {B i : Nat} (hV : INV G B) (hB : B + 7000 < 2 ^ 30) (hi : i + 4 < L) (hL : L ≤ 2560) (kk : ∀ G2, INV G2 (B + 7000) → XX w K 8 G2 851 (LOC w b i) []) : XX w K 8 G 795 (LOC w b i) [] := by
  obtain ⟨hc, hX, hbl, hbA, hZ⟩ := id hx
  obtain ⟨hV1, hV2, hV3⟩ := id hV
  refine x_aload_n (pc := 795) hc dL_law_795 2 rfl ?_
  refine x_aload_n (pc := 796) hc dL_law_796 3 rfl ?_
  refine x_iload_n (pc := 797) hc dL_law_797 0 rfl ?_
  refine x_iconst (v := nI 1) (pc := 798) hc dL_law_798 (by decide) ?_
  refine x_iadd (pc := 799) hc dL_law_799 (x_as (nI (i + 1)) (nI_add _ _) ?_)
  refine x_sld (pc := 800) hc hX hbl hbA (vp_in_nI (by omega) (by omega)) (xs (i + 1)) (by rw [nI_clamp (by omega)]) dL_law_800 ?_
  refine x_callVi (pc := 801) hc cl_L_113 cfM kcX5 [.int (xs (i + 1))] (C_bestRate hI (kl K) G (xs (i + 1)) (aOf G) B hV1 hV2.1 hV2.2 (by omega)) rfl rfl (by simp [Value.category]) rfl rfl ⟨by decide, by decide⟩ dL_law_801 (fun r1 G1 q1 => ?_)
  obtain ⟨e1, p1⟩ := q1
  obtain ⟨m1, m2, m3⟩ := inv_C hV p1
  refine x_aload_n (pc := 804) hc dL_law_804 1 rfl ?_
  refine x_aload_n (pc := 805) hc dL_law_805 3 rfl ?_
  refine x_iload_n (pc := 806) hc dL_law_806 0 rfl ?_
  refine x_iconst (v := nI 1) (pc := 807) hc dL_law_807 (by decide) ?_
  refine x_iadd (pc := 808) hc dL_law_808 (x_as (nI (i + 1)) (nI_add _ _) ?_)
  refine x_sld (pc := 809) hc hX hbl hbA (vp_in_nI (by omega) (by omega)) (xs (i + 1)) (by rw [nI_clamp (by omega)]) dL_law_809 ?_
  refine x_callVi (pc := 810) hc cl_L_116 cfR kcX6 [.int (xs (i + 1))] (M_bestRate hI (kl K) G1 (xs (i + 1)) B m1 m3) rfl rfl (by simp [Value.category]) rfl rfl ⟨by decide, by decide⟩ dL_law_810 (fun r2 G2 q2 => ?_)
  obtain ⟨e2, p2⟩ := q2
  rw [m2] at e2 p2
  refine x_icmp_eq (pc := 813) hc dL_law_813 851 (by decide) (fun _ => ?_) (fun z => absurd (e1.trans e2.symm) z)
  exact kk G2 (inv_step hB (V_same hV2) p1 p2)
set_option maxHeartbeats 4000000 in
set_option maxRecDepth 100000 in
theorem law_24 {w : WT} (hI : xI w) {K : KT} {b L : Nat} {xs : Nat → Int32} (hx : LX w K b L xs) {G : GS} {B i : Nat} (hV : INV G B) (hB : B + 7000 < 2 ^ 30) (hi : i + 4 < L) (hL : L ≤ 2560) (kk : ∀ G2, INV G2 (B + 7000) → XX w K 8 G2 851 (LOC w b i) []) : XX w K 8 G 818 (LOC w b i) [] := by
  obtain ⟨hc, hX, hbl, hbA, hZ⟩ := id hx
  obtain ⟨hV1, hV2, hV3⟩ := id hV
  refine x_aload_n (pc := 818) hc dL_law_818 2 rfl ?_
  refine x_aload_n (pc := 819) hc dL_law_819 3 rfl ?_
  refine x_iload_n (pc := 820) hc dL_law_820 0 rfl ?_
  refine x_iconst (v := nI 1) (pc := 821) hc dL_law_821 (by decide) ?_
  refine x_iadd (pc := 822) hc dL_law_822 (x_as (nI (i + 1)) (nI_add _ _) ?_)
  refine x_sld (pc := 823) hc hX hbl hbA (vp_in_nI (by omega) (by omega)) (xs (i + 1)) (by rw [nI_clamp (by omega)]) dL_law_823 ?_
  refine x_aload_n (pc := 824) hc dL_law_824 3 rfl ?_
  refine x_iload_n (pc := 825) hc dL_law_825 0 rfl ?_
  refine x_iconst (v := nI 2) (pc := 826) hc dL_law_826 (by decide) ?_
  refine x_iadd (pc := 827) hc dL_law_827 (x_as (nI (i + 2)) (nI_add _ _) ?_)
  refine x_sld (pc := 828) hc hX hbl hbA (vp_in_nI (by omega) (by omega)) (xs (i + 2)) (by rw [nI_clamp (by omega)]) dL_law_828 ?_
  refine x_callVi (pc := 829) hc cl_L_117 cfM kcX5 [.int (xs (i + 1)), .int (xs (i + 2))] (C_ifMeasured hI (kl K) G (xs (i + 1)) (xs (i + 2)) (aOf G) B hV1 hV2.1 hV2.2 (by omega)) rfl rfl (by simp [Value.category]) rfl rfl ⟨by decide, by decide⟩ dL_law_829 (fun r1 G1 q1 => ?_)
  obtain ⟨e1, p1⟩ := q1
  obtain ⟨m1, m2, m3⟩ := inv_C hV p1
  refine x_aload_n (pc := 832) hc dL_law_832 1 rfl ?_
  refine x_aload_n (pc := 833) hc dL_law_833 3 rfl ?_
  refine x_iload_n (pc := 834) hc dL_law_834 0 rfl ?_
  refine x_iconst (v := nI 1) (pc := 835) hc dL_law_835 (by decide) ?_
  refine x_iadd (pc := 836) hc dL_law_836 (x_as (nI (i + 1)) (nI_add _ _) ?_)
  refine x_sld (pc := 837) hc hX hbl hbA (vp_in_nI (by omega) (by omega)) (xs (i + 1)) (by rw [nI_clamp (by omega)]) dL_law_837 ?_
  refine x_aload_n (pc := 838) hc dL_law_838 3 rfl ?_
  refine x_iload_n (pc := 839) hc dL_law_839 0 rfl ?_
  refine x_iconst (v := nI 2) (pc := 840) hc dL_law_840 (by decide) ?_
  refine x_iadd (pc := 841) hc dL_law_841 (x_as (nI (i + 2)) (nI_add _ _) ?_)
  refine x_sld (pc := 842) hc hX hbl hbA (vp_in_nI (by omega) (by omega)) (xs (i + 2)) (by rw [nI_clamp (by omega)]) dL_law_842 ?_
  refine x_callVi (pc := 843) hc cl_L_120 cfR kcX6 [.int (xs (i + 1)), .int (xs (i + 2))] (M_ifMeasured hI (kl K) G1 (xs (i + 1)) (xs (i + 2)) B m1 m3) rfl rfl (by simp [Value.category]) rfl rfl ⟨by decide, by decide⟩ dL_law_843 (fun r2 G2 q2 => ?_)
  obtain ⟨e2, p2⟩ := q2
  rw [m2] at e2 p2
  refine x_icmp_eq (pc := 846) hc dL_law_846 851 (by decide) (fun _ => ?_) (fun z => absurd (e1.trans e2.symm) z)
  exact kk G2 (inv_step hB (V_same hV2) p1 p2)
set_option maxHeartbeats 4000000 in
set_option maxRecDepth 100000 in
theorem law_20 {p : Program} {l : Launch} {e : Env} {s : State} {m : MethodId} {below : List Frame} {meth : Method} {c : Code} {b : Nat} {d0 : Drawn} (hd0 : s.drawn.sameBut d0 lw_cs) {w : WT} (hI : xI w) {L : Nat} {xs : Nat → Int32} (hx : ∀ d, LX w (KL p l e s m below meth c b d) b L xs) {G : GS} {B i : Nat} (hV : INV G B) (hB : B + 7000 < 2 ^ 30) (kk : ∀ G2 d, s.drawn.sameBut d lw_cs → INV G2 (B + 7000) → XX w (KL p l e s m below meth c b d) 8 G2 851 (LOC w b i) []) : XX w (KL p l e s m below meth c b d0) 8 G 706 (LOC w b i) [] := by
  have hc : ∀ d, CX w (KL p l e s m below meth c b d) cL_law 8 RL room_1 := fun d => (hx d).1
  obtain ⟨hV1, hV2, hV3⟩ := id hV
  refine x_aload_n (pc := 706) (hc _) dL_law_706 2 rfl ?_
  refine x_callf (pc := 707) hd0 (hc _) cl_L_100 cfM kcX5 (C_meanMistake hI l G (aOf G) B hV1 hV2.1 hV2.2 (by omega)) (by simp [Value.category]) rfl rfl ⟨by decide, by decide⟩ dL_law_707 (fun r1 G1 d1 q1 hd1 => ?_)
  obtain ⟨e1, p1⟩ := q1
  obtain ⟨m1, m2, m3⟩ := inv_C hV p1
  refine x_f2d (pc := 710) hd1 (hc _) dL_law_710 (fun x d2 hx1 hd2 => ?_)
  refine x_dstore (pc := 711) (L' := (4, .double x) :: LOC w b i) (hc _) dL_law_711 (by decide) rfl ?_
  refine x_aload_n (pc := 713) (hc _) dL_law_713 2 rfl ?_
  refine x_callf (pc := 714) hd2 (hc _) cl_L_104 cfR kcX6 (M_meanMistake hI l G1 B m1 m3) (by simp [Value.category]) rfl rfl ⟨by decide, by decide⟩ dL_law_714 (fun r2 G2 d3 q2 hd3 => ?_)
  obtain ⟨e2, p2⟩ := q2
  rw [m2] at e2 p2
  refine x_f2d (pc := 717) hd3 (hc _) dL_law_717 (fun y d4 hy1 hd4 => ?_)
  have hcc := hc d4
  refine x_dstore (pc := 718) (L' := (6, .double y) :: (4, .double x) :: LOC w b i) hcc dL_law_718 (by decide) rfl ?_
  have hend : XX w (KL p l e s m below meth c b d4) 8 G2 746 ((6, .double y) :: (4, .double x) :: LOC w b i) [] := by
    refine x_goto (pc := 746) hcc dL_law_746 851 (by decide) ?_
    refine x_loc [2, 3, 4, 5] rfl ?_
    exact kk G2 d4 hd4 (inv_step hB (V_same hV2) p1 p2)
  refine x_dload (pc := 720) hcc dL_law_720 1 rfl ?_
  refine x_dload (pc := 722) hcc dL_law_722 0 rfl ?_
  refine x_dcmp (pc := 724) hcc dL_law_724 ?_
  rcases mm_cmp e1 e2 hx1 hy1 with h | ⟨h1, h2⟩
  · exact x_if_eq (pc := 725) hcc dL_law_725 746 (by decide) (fun _ => hend) (fun z => absurd h z)
  · refine x_if_eq (pc := 725) hcc dL_law_725 746 (by decide) (fun _ => hend) (fun _ => ?_)
    refine x_dload (pc := 728) hcc dL_law_728 1 rfl ?_
    refine x_dload (pc := 730) hcc dL_law_730 1 rfl ?_
    refine x_dcmp (pc := 732) hcc dL_law_732 ?_
    refine x_if_eq (pc := 733) hcc dL_law_733 744 (by decide) (fun z => absurd z h1) (fun _ => ?_)
    refine x_dload (pc := 736) hcc dL_law_736 0 rfl ?_
    refine x_dload (pc := 738) hcc dL_law_738 0 rfl ?_
    refine x_dcmp (pc := 740) hcc dL_law_740 ?_
    exact x_if_ne (pc := 741) hcc dL_law_741 746 (by decide) (fun _ => hend) (fun z => absurd z h2)
