def e1Row (f : Nat → Int32) (k : Nat) : Nat → Int32 := fun i => if 60 + k < i ∧ i < 300 then f (i - 60) else f i
theorem e1Row_up (f : Nat → Int32) (k : Nat) (hk : 60 ≤ k + 1) (hk2 : k < 239) : upd (e1Row f (k + 1)) (60 + (k + 1)) (e1Row f (k + 1) (k + 1)) = e1Row f k := by
  funext i
  unfold upd e1Row
  by_cases h : i = 60 + (k + 1)
  · rw [if_pos h, if_neg (by omega), if_pos (by omega), show i - 60 = k + 1 by omega]
  · rw [if_neg h]
    by_cases h2 : 60 + (k + 1) < i ∧ i < 300
    · rw [if_pos h2, if_pos (by omega)]
    · rw [if_neg h2, if_neg (by omega)]
theorem e1Row_0 (f : Nat → Int32) : e1Row f 239 = f := by
  funext i
  unfold e1Row
  rw [if_neg (by omega)]
def e2Row (g m : Nat → Int32) (k : Nat) : Nat → Int32 := fun i => if 60 ≤ i ∧ i < 60 + k then g (i - 20) else if 80 ≤ i ∧ i < 80 + k then m (i - 80) else if 100 ≤ i ∧ i < 100 + k then g (i - 100) else g i
theorem e2Row_up (g m : Nat → Int32) (k : Nat) (hk : k < 20) : upd (upd (upd (e2Row g m k) (60 + k) (g (40 + k))) (60 + 20 + k) (m k)) (60 + 40 + k) (g (0 + k)) = e2Row g m (k + 1) := by
  funext i
  unfold upd e2Row
  by_cases h : i = 60 + 40 + k
  · rw [if_pos h, if_neg (by omega), if_neg (by omega), if_pos (by omega), show i - 100 = 0 + k by omega]
  · rw [if_neg h]
    by_cases h2 : i = 60 + 20 + k
    · rw [if_pos h2, if_neg (by omega), if_pos (by omega), show i - 80 = k by omega]
    · rw [if_neg h2]
      by_cases h3 : i = 60 + k
      · rw [if_pos h3, if_pos (by omega), show i - 20 = 40 + k by omega]
      · rw [if_neg h3]
        by_cases h4 : 60 ≤ i ∧ i < 60 + k
        · rw [if_pos h4, if_pos (by omega)]
        · rw [if_neg h4, if_neg (show ¬ (60 ≤ i ∧ i < 60 + (k + 1)) by omega)]
          by_cases h5 : 80 ≤ i ∧ i < 80 + k
          · rw [if_pos h5, if_pos (by omega)]
          · rw [if_neg h5, if_neg (show ¬ (80 ≤ i ∧ i < 80 + (k + 1)) by omega)]
            by_cases h6 : 100 ≤ i ∧ i < 100 + k
            · rw [if_pos h6, if_pos (by omega)]
            · rw [if_neg h6, if_neg (by omega)]
theorem e2Row_n (g m : Nat → Int32) (k i : Nat) (hk : k ≤ 20) (h : i < 60 ∨ 120 ≤ i) : e2Row g m k i = g i := by
  unfold e2Row
  rw [if_neg (by omega), if_neg (by omega), if_neg (by omega)]
def e3Row (h m : Nat → Int32) (r k : Nat) : Nat → Int32 := fun i => if i < k then bnd (h i + mean m i r * h (303 + 1) / 100) else h i
theorem e3Row_up (h m : Nat → Int32) (r k : Nat) : upd (e3Row h m r k) (0 + k) (bnd (h (0 + k) + mean m k r * h (303 + 1) / 100)) = e3Row h m r (k + 1) := by
  funext i
  unfold upd e3Row
  by_cases e : i = 0 + k
  · rw [if_pos e, if_pos (by omega), show 0 + k = i by omega, show k = i by omega]
  · rw [if_neg e]
    by_cases e2 : i < k
    · rw [if_pos e2, if_pos (by omega)]
    · rw [if_neg e2, if_neg (by omega)]
theorem e3Row_n (h m : Nat → Int32) (r k i : Nat) (e : k ≤ i) : e3Row h m r k i = h i := if_neg (by omega)
def mm (f : Nat → Int32) : Nat → Int32 := fun j => f (40 + j) - f (20 + j)
theorem mSum_congr {m m' : Nat → Int32} (d r : Nat) : ∀ n, (∀ j, j < n → m j = m' j) → mSum m d r n = mSum m' d r n
  | 0 => fun _ => rfl
  | n + 1 => fun h => by
    show mSum m d r n + _ = mSum m' d r n + _
    rw [mSum_congr d r n (fun j hj => h j (by omega)), h n (by omega)]
theorem mean_congr {m m' : Nat → Int32} (d r : Nat) (h : ∀ j, j < 20 → m j = m' j) : mean m d r = mean m' d r := by
  unfold mean
  rw [mSum_congr d r 20 h]
theorem lnRow_in (f m : Nat → Int32) {j : Nat} (h : j < 20) : lnRow f m 20 20 j = mm f j := by
  unfold lnRow mm
  rw [if_pos h, if_pos h]
def rEnd1 (f : Nat → Int32) : Nat → Int32 := e1Row f 59
def rEnd2 (f : Nat → Int32) : Nat → Int32 := e2Row (rEnd1 f) (mm f) 20
def rEnd3 (f : Nat → Int32) (r : Nat) : Nat → Int32 := e3Row (rEnd2 f) (mm f) r 20
def rEnds (f : Nat → Int32) (r : Nat) : Nat → Int32 := upd (upd (upd (rEnd3 f r) 302 (rEnd3 f r 302 + (if rEnd3 f r 302 < 4 then 1 else 0))) 300 0) 301 (upd (upd (rEnd3 f r) 302 (rEnd3 f r 302 + (if rEnd3 f r 302 < 4 then 1 else 0))) 300 0 301 + 1)
/-- the reach, which is read in the first row -/
def h303 (p : Nat) (s f : Nat → Int32) (r : Nat) : Prop := r ≤ 9 ∧ ((p = 0 ∧ f 303 = nI r) ∨ (p = 354 ∧ s 303 = nI r))
theorem h303.at {p : Nat} {s f f' : Nat → Int32} {r : Nat} (h : h303 p s f r) (e : f' 303 = f 303) (G : GS) (m : Nat → Int32) : GM G p s f' m 240 303 = nI r := by
  have e1 : GM G p s f' m 240 303 = lft p s f' 303 := by
    show up1 (up1 G 240 (lft p s f')) 244 m 240 303 = _
    rw [up1_n _ _ (by omega), up1_s]
  rw [e1]
  rcases h.2 with ⟨rfl, h2⟩ | ⟨rfl, h2⟩
  · rw [lft_0, e, h2]
  · unfold lft
    rw [if_pos (by omega), h2]
set_option maxHeartbeats 4000000 in
set_option maxRecDepth 100000 in
theorem m_X6_ends {w : WT} (hI : xI w) (l : Launch) (G : GS) (r : Nat) (p : Nat) (s f m : Nat → Int32) (hp : p ≤ 354) (h0 : f 300 = nI 20) (h3 : h303 p s f r) : Mv w l yX6_ends cX6_ends 3 ⟨4, 0, 0, 89⟩ [.ref (w.2.2 239), .int (nI p)] (GM G p s f m) (fun G' => G' = GM G p s (rEnds f r) (lnRow f m 20 20)) := by
  refine mk_v (L0 := [(0, .ref (w.2.2 239)), (1, .int (nI p))]) hI (by decide +kernel) rfl (Nat.le_of_ble_eq_true rfl) (fun K hc hret => ?_)
  refine x_aload_n (pc := 0) hc dX6_ends_0 0 rfl ?_
  refine x_iload_n (pc := 1) hc dX6_ends_1 1 rfl ?_
  refine x_callVv (pc := 2) hc cl_X6_58 cfR kcX6 [.int (nI p)] (m_X6_looksNow hI (kl K) G 20 p s f m (by omega) (by omega) h0) rfl rfl (by simp [Value.category]) rfl rfl ⟨by decide, by decide⟩ dX6_ends_2 (fun Gc2 q2 => ?_)
  rw [q2]
  refine x_sipush (v := 239) (pc := 5) hc dX6_ends_5 (by decide) ?_
  refine x_istore_n (pc := 8) (L' := [(2, .int 239), (0, .ref (w.2.2 239)), (1, .int (nI p))]) hc dX6_ends_8 (by decide) rfl ?_
  have loop9 : ∀ (n1 : Nat) (k : Nat), 59 ≤ k ∧ k ≤ 239 → k < 59 + n1 → XX w K 3 (GM G p s (e1Row f k) (lnRow f m 20 20)) 9 [(2, .int (nI k)), (0, .ref (w.2.2 239)), (1, .int (nI p))] [] := by
    intro n1
    induction n1 with
    | zero => intro k hk hf; omega
    | succ n1 ih =>
      intro k hk hf
      refine x_iload_n (pc := 9) hc dX6_ends_9 0 rfl ?_
      refine x_bipush (v := 60) (pc := 10) hc dX6_ends_10 (by decide) ?_
      refine x_icmp_lt (pc := 12) hc dX6_ends_12 46 (by decide) (fun c12 => ?_) (fun c12 => ?_)
      · have c12 : k < 60 := (nI_ltI (a := k) (b := 60) (by omega) (by omega)).mp c12
        refine x_iconst (v := 0) (pc := 46) hc dX6_ends_46 (by decide) ?_
        refine x_istore_n (pc := 47) (L' := [(2, .int 0), (0, .ref (w.2.2 239)), (1, .int (nI p))]) hc dX6_ends_47 (by decide) rfl ?_
        have loop48 : ∀ (n1 : Nat) (k : Nat), k ≤ 20 → 20 < k + n1 → XX w K 3 (GM G p s (e2Row (rEnd1 f) (mm f) k) (lnRow f m 20 20)) 48 [(2, .int (nI k)), (0, .ref (w.2.2 239)), (1, .int (nI p))] [] := by
          intro n1
          induction n1 with
          | zero => intro k hk hf; omega
          | succ n1 ih =>
            intro k hk hf
            refine x_iload_n (pc := 48) hc dX6_ends_48 0 rfl ?_
            refine x_bipush (v := 20) (pc := 49) hc dX6_ends_49 (by decide) ?_
            refine x_icmp_ge (pc := 51) hc dX6_ends_51 126 (by decide) (fun c51 => ?_) (fun c51 => ?_)
            · have c51 : 20 ≤ k := (nI_leI (a := 20) (b := k) (by omega) (by omega)).mp c51
              refine x_iconst (v := 0) (pc := 126) hc dX6_ends_126 (by decide) ?_
              refine x_istore_n (pc := 127) (L' := [(2, .int 0), (0, .ref (w.2.2 239)), (1, .int (nI p))]) hc dX6_ends_127 (by decide) rfl ?_
              have loop128 : ∀ (n1 : Nat) (k : Nat), k ≤ 20 → 20 < k + n1 → XX w K 3 (GM G p s (e3Row (rEnd2 f) (mm f) r k) (lnRow f m 20 20)) 128 [(2, .int (nI k)), (0, .ref (w.2.2 239)), (1, .int (nI p))] [] := by
                intro n1
                induction n1 with
                | zero => intro k hk hf; omega
                | succ n1 ih =>
                  intro k hk hf
                  refine x_iload_n (pc := 128) hc dX6_ends_128 0 rfl ?_
                  refine x_bipush (v := 20) (pc := 129) hc dX6_ends_129 (by decide) ?_
                  refine x_icmp_ge (pc := 131) hc dX6_ends_131 177 (by decide) (fun c131 => ?_) (fun c131 => ?_)
                  · have c131 : 20 ≤ k := (nI_leI (a := 20) (b := k) (by omega) (by omega)).mp c131
                    refine x_aload_n (pc := 177) hc dX6_ends_177 1 rfl ?_
                    refine x_get (pc := 178) hc cfR kcX6 0 (by decide) fl_X6_7 rfl dX6_ends_178 ?_
                    refine x_iload_n (pc := 181) hc dX6_ends_181 2 rfl ?_
                    refine x_sipush (v := 302) (pc := 182) hc dX6_ends_182 (by decide) ?_
                    refine x_iadd (pc := 185) hc dX6_ends_185 ?_
                    refine x_as (nI (p + 302)) (nI_add _ _) ?_
                    refine x_dup2ir (pc := 186) hc dX6_ends_186 ?_
                    refine x_iald (pc := 187) hc af0 (vp_in_nI (by omega) (by decide)) dX6_ends_187 ?_
                    refine x_as ((e3Row (rEnd2 f) (mm f) r k) 302) (gm_ld (by omega) (by omega)) ?_
                    refine x_aload_n (pc := 188) hc dX6_ends_188 1 rfl ?_
                    refine x_get (pc := 189) hc cfR kcX6 0 (by decide) fl_X6_7 rfl dX6_ends_189 ?_
                    refine x_iload_n (pc := 192) hc dX6_ends_192 2 rfl ?_
                    refine x_sipush (v := 302) (pc := 193) hc dX6_ends_193 (by decide) ?_
                    refine x_iadd (pc := 196) hc dX6_ends_196 ?_
                    refine x_as (nI (p + 302)) (nI_add _ _) ?_
                    refine x_iald (pc := 197) hc af0 (vp_in_nI (by omega) (by decide)) dX6_ends_197 ?_
                    refine x_as ((e3Row (rEnd2 f) (mm f) r k) 302) (gm_ld (by omega) (by omega)) ?_
                    refine x_iconst (v := 4) (pc := 198) hc dX6_ends_198 (by decide) ?_
                    refine x_icmp_ge (pc := 199) hc dX6_ends_199 206 (by decide) (fun c199 => ?_) (fun c199 => ?_)
                    · refine x_iconst (v := 0) (pc := 206) hc dX6_ends_206 (by decide) ?_
                      refine x_iadd (pc := 207) hc dX6_ends_207 ?_
                      refine x_iast (pc := 208) hc af0 (vp_in_nI (by omega) (by decide)) dX6_ends_208 ?_
                      refine x_G (gm_st (i := 302) (by omega) (by omega)) ?_
                      refine x_fn (fun z => GM G p s z (lnRow f m 20 20)) (fun f1 ef1 => ?_)
                      refine x_aload_n (pc := 209) hc dX6_ends_209 1 rfl ?_
                      refine x_get (pc := 210) hc cfR kcX6 0 (by decide) fl_X6_7 rfl dX6_ends_210 ?_
                      refine x_iload_n (pc := 213) hc dX6_ends_213 2 rfl ?_
                      refine x_sipush (v := 300) (pc := 214) hc dX6_ends_214 (by decide) ?_
                      refine x_iadd (pc := 217) hc dX6_ends_217 ?_
                      refine x_as (nI (p + 300)) (nI_add _ _) ?_
                      refine x_iconst (v := 0) (pc := 218) hc dX6_ends_218 (by decide) ?_
                      refine x_iast (pc := 219) hc af0 (vp_in_nI (by omega) (by decide)) dX6_ends_219 ?_
                      refine x_G (gm_st (i := 300) (by omega) (by omega)) ?_
                      refine x_fn (fun z => GM G p s z (lnRow f m 20 20)) (fun f2 ef2 => ?_)
                      refine x_aload_n (pc := 220) hc dX6_ends_220 1 rfl ?_
                      refine x_get (pc := 221) hc cfR kcX6 0 (by decide) fl_X6_7 rfl dX6_ends_221 ?_
                      refine x_iload_n (pc := 224) hc dX6_ends_224 2 rfl ?_
                      refine x_sipush (v := 301) (pc := 225) hc dX6_ends_225 (by decide) ?_
                      refine x_iadd (pc := 228) hc dX6_ends_228 ?_
                      refine x_as (nI (p + 301)) (nI_add _ _) ?_
                      refine x_dup2ir (pc := 229) hc dX6_ends_229 ?_
                      refine x_iald (pc := 230) hc af0 (vp_in_nI (by omega) (by decide)) dX6_ends_230 ?_
                      refine x_as (f2 301) (gm_ld (by omega) (by omega)) ?_
                      refine x_iconst (v := 1) (pc := 231) hc dX6_ends_231 (by decide) ?_
                      refine x_iadd (pc := 232) hc dX6_ends_232 ?_
                      refine x_iast (pc := 233) hc af0 (vp_in_nI (by omega) (by decide)) dX6_ends_233 ?_
                      refine x_G (gm_st (i := 301) (by omega) (by omega)) ?_
                      refine x_fn (fun z => GM G p s z (lnRow f m 20 20)) (fun f3 ef3 => ?_)
                      exact hret _ _ _ dX6_ends_234 (congrArg (fun q => GM G p s q (lnRow f m 20 20)) (by
                          have k20 : k = 20 := by omega
                          subst k20
                          subst ef1
                          subst ef2
                          subst ef3
                          unfold rEnds rEnd3
                          rw [if_neg (Int32.not_lt.mpr c199)]))
                    · refine x_iconst (v := 1) (pc := 202) hc dX6_ends_202 (by decide) ?_
                      refine x_goto (pc := 203) hc dX6_ends_203 207 (by decide) ?_
                      refine x_iadd (pc := 207) hc dX6_ends_207 ?_
                      refine x_iast (pc := 208) hc af0 (vp_in_nI (by omega) (by decide)) dX6_ends_208 ?_
                      refine x_G (gm_st (i := 302) (by omega) (by omega)) ?_
                      refine x_fn (fun z => GM G p s z (lnRow f m 20 20)) (fun f4 ef4 => ?_)
                      refine x_aload_n (pc := 209) hc dX6_ends_209 1 rfl ?_
                      refine x_get (pc := 210) hc cfR kcX6 0 (by decide) fl_X6_7 rfl dX6_ends_210 ?_
                      refine x_iload_n (pc := 213) hc dX6_ends_213 2 rfl ?_
                      refine x_sipush (v := 300) (pc := 214) hc dX6_ends_214 (by decide) ?_
                      refine x_iadd (pc := 217) hc dX6_ends_217 ?_
                      refine x_as (nI (p + 300)) (nI_add _ _) ?_
                      refine x_iconst (v := 0) (pc := 218) hc dX6_ends_218 (by decide) ?_
                      refine x_iast (pc := 219) hc af0 (vp_in_nI (by omega) (by decide)) dX6_ends_219 ?_
                      refine x_G (gm_st (i := 300) (by omega) (by omega)) ?_
                      refine x_fn (fun z => GM G p s z (lnRow f m 20 20)) (fun f5 ef5 => ?_)
                      refine x_aload_n (pc := 220) hc dX6_ends_220 1 rfl ?_
                      refine x_get (pc := 221) hc cfR kcX6 0 (by decide) fl_X6_7 rfl dX6_ends_221 ?_
                      refine x_iload_n (pc := 224) hc dX6_ends_224 2 rfl ?_
                      refine x_sipush (v := 301) (pc := 225) hc dX6_ends_225 (by decide) ?_
                      refine x_iadd (pc := 228) hc dX6_ends_228 ?_
                      refine x_as (nI (p + 301)) (nI_add _ _) ?_
                      refine x_dup2ir (pc := 229) hc dX6_ends_229 ?_
                      refine x_iald (pc := 230) hc af0 (vp_in_nI (by omega) (by decide)) dX6_ends_230 ?_
                      refine x_as (f5 301) (gm_ld (by omega) (by omega)) ?_
                      refine x_iconst (v := 1) (pc := 231) hc dX6_ends_231 (by decide) ?_
                      refine x_iadd (pc := 232) hc dX6_ends_232 ?_
                      refine x_iast (pc := 233) hc af0 (vp_in_nI (by omega) (by decide)) dX6_ends_233 ?_
                      refine x_G (gm_st (i := 301) (by omega) (by omega)) ?_
                      refine x_fn (fun z => GM G p s z (lnRow f m 20 20)) (fun f6 ef6 => ?_)
                      exact hret _ _ _ dX6_ends_234 (congrArg (fun q => GM G p s q (lnRow f m 20 20)) (by
                          have k20 : k = 20 := by omega
                          subst k20
                          subst ef4
                          subst ef5
                          subst ef6
                          unfold rEnds rEnd3
                          rw [if_pos (Int32.not_le.mp c199)]))
                  · have c131 : ¬ 20 ≤ k := fun h9 => c131 ((nI_leI (a := 20) (b := k) (by omega) (by omega)).mpr h9)
                    refine x_aload_n (pc := 134) hc dX6_ends_134 1 rfl ?_
                    refine x_get (pc := 135) hc cfR kcX6 0 (by decide) fl_X6_7 rfl dX6_ends_135 ?_
                    refine x_iload_n (pc := 138) hc dX6_ends_138 2 rfl ?_
                    refine x_iconst (v := 0) (pc := 139) hc dX6_ends_139 (by decide) ?_
                    refine x_iadd (pc := 140) hc dX6_ends_140 ?_
                    refine x_as (nI (p + 0)) (nI_add _ _) ?_
                    refine x_iload_n (pc := 141) hc dX6_ends_141 0 rfl ?_
                    refine x_iadd (pc := 142) hc dX6_ends_142 ?_
                    refine x_as (nI (p + 0 + k)) (nI_add _ _) ?_
                    refine x_aload_n (pc := 143) hc dX6_ends_143 1 rfl ?_
                    refine x_aload_n (pc := 144) hc dX6_ends_144 1 rfl ?_
                    refine x_get (pc := 145) hc cfR kcX6 0 (by decide) fl_X6_7 rfl dX6_ends_145 ?_
                    refine x_iload_n (pc := 148) hc dX6_ends_148 2 rfl ?_
                    refine x_iconst (v := 0) (pc := 149) hc dX6_ends_149 (by decide) ?_
                    refine x_iadd (pc := 150) hc dX6_ends_150 ?_
                    refine x_as (nI (p + 0)) (nI_add _ _) ?_
                    refine x_iload_n (pc := 151) hc dX6_ends_151 0 rfl ?_
                    refine x_iadd (pc := 152) hc dX6_ends_152 ?_
                    refine x_as (nI (p + 0 + k)) (nI_add _ _) ?_
                    refine x_iald (pc := 153) hc af0 (vp_in_nI (by omega) (by decide)) dX6_ends_153 ?_
                    refine x_as ((e3Row (rEnd2 f) (mm f) r k) (0 + k)) (gm_ld (by omega) (by omega)) ?_
                    refine x_iload_n (pc := 154) hc dX6_ends_154 0 rfl ?_
                    refine x_aload_n (pc := 155) hc dX6_ends_155 1 rfl ?_
                    refine x_get (pc := 156) hc cfR kcX6 0 (by decide) fl_X6_7 rfl dX6_ends_156 ?_
                    refine x_iload_n (pc := 159) hc dX6_ends_159 2 rfl ?_
                    refine x_sipush (v := 303) (pc := 160) hc dX6_ends_160 (by decide) ?_
                    refine x_iadd (pc := 163) hc dX6_ends_163 ?_
                    refine x_as (nI (p + 303)) (nI_add _ _) ?_
                    refine x_iconst (v := 1) (pc := 164) hc dX6_ends_164 (by decide) ?_
                    refine x_iadd (pc := 165) hc dX6_ends_165 ?_
                    refine x_as (nI (p + 303 + 1)) (nI_add _ _) ?_
                    refine x_iald (pc := 166) hc af0 (vp_in_nI (by omega) (by decide)) dX6_ends_166 ?_
                    refine x_as ((e3Row (rEnd2 f) (mm f) r k) (303 + 1)) (gm_ld (by omega) (by omega)) ?_
                    refine x_callVi (pc := 167) hc cl_X6_62 cfR kcX6 [.int ((e3Row (rEnd2 f) (mm f) r k) (0 + k)), .int (nI k), .int ((e3Row (rEnd2 f) (mm f) r k) (303 + 1))] (m_X6_mended hI (kl K) (GM G p s (e3Row (rEnd2 f) (mm f) r k) (lnRow f m 20 20)) ((e3Row (rEnd2 f) (mm f) r k) (0 + k)) ((e3Row (rEnd2 f) (mm f) r k) (303 + 1)) k r (by omega) h3.1 (h3.at (by rw [e3Row_n _ _ _ _ _ (by omega)]; unfold rEnd2; rw [e2Row_n _ _ _ _ (by omega) (by omega)]; unfold rEnd1 e1Row; rw [if_neg (by omega)]) _ _)) rfl rfl (by simp [Value.category]) rfl rfl ⟨by decide, by decide⟩ dX6_ends_167 (fun r167 Gc167 q167 => ?_)
                    obtain ⟨er167, eGc167⟩ := q167
                    rw [eGc167]
                    subst er167
                    refine x_as (bnd (((e3Row (rEnd2 f) (mm f) r k) (0 + k)) + mean ((lnRow f m 20 20)) k r * ((e3Row (rEnd2 f) (mm f) r k) (303 + 1)) / 100)) rfl ?_
                    refine x_iast (pc := 170) hc af0 (vp_in_nI (by omega) (by decide)) dX6_ends_170 ?_
                    refine x_G (gm_st (i := 0 + k) (by omega) (by omega)) ?_
                    refine x_fn (fun z => GM G p s z (lnRow f m 20 20)) (fun f7 ef7 => ?_)
                    refine x_iinc (pc := 171) (L' := [(2, .int (nI (k + 1))), (0, .ref (w.2.2 239)), (1, .int (nI p))]) hc dX6_ends_171 0 rfl (nI (k + 1)) (nI_1 _) (by decide) rfl ?_
                    refine x_goto (pc := 174) hc dX6_ends_174 128 (by decide) ?_
                    refine x_loc [0, 1, 2] rfl ?_
                    have ih9 := ih (k + 1) (by omega) (by omega)
                    rw [← e3Row_up (rEnd2 f) (mm f) r k] at ih9
                    rw [ef7, e3Row_n _ _ _ _ _ (by omega), e3Row_n _ _ _ _ _ (by omega), mean_congr k r (fun j hj => lnRow_in f m hj)]
                    exact ih9
              refine x_loc [0, 1, 2] rfl ?_
              have z9 : e3Row (rEnd2 f) (mm f) r 0 = e2Row (rEnd1 f) (mm f) k := by
                rw [show k = 20 by omega]
                rfl
              have z8 := loop128 21 0 (by omega) (by omega)
              rw [z9] at z8
              exact z8
            · have c51 : ¬ 20 ≤ k := fun h9 => c51 ((nI_leI (a := 20) (b := k) (by omega) (by omega)).mpr h9)
              refine x_aload_n (pc := 54) hc dX6_ends_54 1 rfl ?_
              refine x_get (pc := 55) hc cfR kcX6 0 (by decide) fl_X6_7 rfl dX6_ends_55 ?_
              refine x_iload_n (pc := 58) hc dX6_ends_58 2 rfl ?_
              refine x_bipush (v := 60) (pc := 59) hc dX6_ends_59 (by decide) ?_
              refine x_iadd (pc := 61) hc dX6_ends_61 ?_
              refine x_as (nI (p + 60)) (nI_add _ _) ?_
              refine x_iload_n (pc := 62) hc dX6_ends_62 0 rfl ?_
              refine x_iadd (pc := 63) hc dX6_ends_63 ?_
              refine x_as (nI (p + 60 + k)) (nI_add _ _) ?_
              refine x_aload_n (pc := 64) hc dX6_ends_64 1 rfl ?_
              refine x_get (pc := 65) hc cfR kcX6 0 (by decide) fl_X6_7 rfl dX6_ends_65 ?_
              refine x_iload_n (pc := 68) hc dX6_ends_68 2 rfl ?_
              refine x_bipush (v := 40) (pc := 69) hc dX6_ends_69 (by decide) ?_
              refine x_iadd (pc := 71) hc dX6_ends_71 ?_
              refine x_as (nI (p + 40)) (nI_add _ _) ?_
              refine x_iload_n (pc := 72) hc dX6_ends_72 0 rfl ?_
              refine x_iadd (pc := 73) hc dX6_ends_73 ?_
              refine x_as (nI (p + 40 + k)) (nI_add _ _) ?_
              refine x_iald (pc := 74) hc af0 (vp_in_nI (by omega) (by decide)) dX6_ends_74 ?_
              refine x_as ((e2Row (rEnd1 f) (mm f) k) (40 + k)) (gm_ld (by omega) (by omega)) ?_
              refine x_iast (pc := 75) hc af0 (vp_in_nI (by omega) (by decide)) dX6_ends_75 ?_
              refine x_G (gm_st (i := 60 + k) (by omega) (by omega)) ?_
              refine x_fn (fun z => GM G p s z (lnRow f m 20 20)) (fun f8 ef8 => ?_)
              refine x_aload_n (pc := 76) hc dX6_ends_76 1 rfl ?_
              refine x_get (pc := 77) hc cfR kcX6 0 (by decide) fl_X6_7 rfl dX6_ends_77 ?_
              refine x_iload_n (pc := 80) hc dX6_ends_80 2 rfl ?_
              refine x_bipush (v := 60) (pc := 81) hc dX6_ends_81 (by decide) ?_
              refine x_iadd (pc := 83) hc dX6_ends_83 ?_
              refine x_as (nI (p + 60)) (nI_add _ _) ?_
              refine x_bipush (v := 20) (pc := 84) hc dX6_ends_84 (by decide) ?_
              refine x_iadd (pc := 86) hc dX6_ends_86 ?_
              refine x_as (nI (p + 60 + 20)) (nI_add _ _) ?_
              refine x_iload_n (pc := 87) hc dX6_ends_87 0 rfl ?_
              refine x_iadd (pc := 88) hc dX6_ends_88 ?_
              refine x_as (nI (p + 60 + 20 + k)) (nI_add _ _) ?_
              refine x_aload_n (pc := 89) hc dX6_ends_89 1 rfl ?_
              refine x_get (pc := 90) hc cfR kcX6 7 (by decide) fl_X6_22 rfl dX6_ends_90 ?_
              refine x_iload_n (pc := 93) hc dX6_ends_93 0 rfl ?_
              refine x_iald (pc := 94) hc af4 (vp_in_nI (by omega) (by decide)) dX6_ends_94 ?_
              refine x_as ((lnRow f m 20 20) k) (gm_ldm (by omega)) ?_
              refine x_iast (pc := 95) hc af0 (vp_in_nI (by omega) (by decide)) dX6_ends_95 ?_
              refine x_G (gm_st (i := 60 + 20 + k) (by omega) (by omega)) ?_
              refine x_fn (fun z => GM G p s z (lnRow f m 20 20)) (fun f9 ef9 => ?_)
              refine x_aload_n (pc := 96) hc dX6_ends_96 1 rfl ?_
              refine x_get (pc := 97) hc cfR kcX6 0 (by decide) fl_X6_7 rfl dX6_ends_97 ?_
              refine x_iload_n (pc := 100) hc dX6_ends_100 2 rfl ?_
              refine x_bipush (v := 60) (pc := 101) hc dX6_ends_101 (by decide) ?_
              refine x_iadd (pc := 103) hc dX6_ends_103 ?_
              refine x_as (nI (p + 60)) (nI_add _ _) ?_
              refine x_bipush (v := 40) (pc := 104) hc dX6_ends_104 (by decide) ?_
              refine x_iadd (pc := 106) hc dX6_ends_106 ?_
              refine x_as (nI (p + 60 + 40)) (nI_add _ _) ?_
              refine x_iload_n (pc := 107) hc dX6_ends_107 0 rfl ?_
              refine x_iadd (pc := 108) hc dX6_ends_108 ?_
              refine x_as (nI (p + 60 + 40 + k)) (nI_add _ _) ?_
              refine x_aload_n (pc := 109) hc dX6_ends_109 1 rfl ?_
              refine x_get (pc := 110) hc cfR kcX6 0 (by decide) fl_X6_7 rfl dX6_ends_110 ?_
              refine x_iload_n (pc := 113) hc dX6_ends_113 2 rfl ?_
              refine x_iconst (v := 0) (pc := 114) hc dX6_ends_114 (by decide) ?_
              refine x_iadd (pc := 115) hc dX6_ends_115 ?_
              refine x_as (nI (p + 0)) (nI_add _ _) ?_
              refine x_iload_n (pc := 116) hc dX6_ends_116 0 rfl ?_
              refine x_iadd (pc := 117) hc dX6_ends_117 ?_
              refine x_as (nI (p + 0 + k)) (nI_add _ _) ?_
              refine x_iald (pc := 118) hc af0 (vp_in_nI (by omega) (by decide)) dX6_ends_118 ?_
              refine x_as (f9 (0 + k)) (gm_ld (by omega) (by omega)) ?_
              refine x_iast (pc := 119) hc af0 (vp_in_nI (by omega) (by decide)) dX6_ends_119 ?_
              refine x_G (gm_st (i := 60 + 40 + k) (by omega) (by omega)) ?_
              refine x_fn (fun z => GM G p s z (lnRow f m 20 20)) (fun f10 ef10 => ?_)
              refine x_iinc (pc := 120) (L' := [(2, .int (nI (k + 1))), (0, .ref (w.2.2 239)), (1, .int (nI p))]) hc dX6_ends_120 0 rfl (nI (k + 1)) (nI_1 _) (by decide) rfl ?_
              refine x_goto (pc := 123) hc dX6_ends_123 48 (by decide) ?_
              refine x_loc [0, 1, 2] rfl ?_
              have ih9 := ih (k + 1) (by omega) (by omega)
              rw [← e2Row_up (rEnd1 f) (mm f) k (by omega)] at ih9
              have u1 : e2Row (rEnd1 f) (mm f) k (40 + k) = rEnd1 f (40 + k) := e2Row_n _ _ _ _ (by omega) (by omega)
              have u2 : f9 (0 + k) = rEnd1 f (0 + k) := by rw [ef9, upd_n _ _ (by omega), ef8, upd_n _ _ (by omega)]; exact e2Row_n _ _ _ _ (by omega) (by omega)
              rw [ef10, u2, ef9, lnRow_in f m (by omega), ef8, u1]
              exact ih9
        refine x_loc [0, 1, 2] rfl ?_
        have z9 : e2Row (rEnd1 f) (mm f) 0 = e1Row f k := by
          rw [show k = 59 by omega]
          funext i
          unfold e2Row
          rw [if_neg (by omega), if_neg (by omega), if_neg (by omega)]
          rfl
        have z8 := loop48 21 0 (by omega) (by omega)
        rw [z9] at z8
        exact z8
      · have c12 : ¬ k < 60 := fun h9 => c12 ((nI_ltI (a := k) (b := 60) (by omega) (by omega)).mpr h9)
        obtain ⟨k, rfl⟩ : ∃ q, k = q + 1 := ⟨k - 1, by omega⟩
        refine x_aload_n (pc := 15) hc dX6_ends_15 1 rfl ?_
        refine x_get (pc := 16) hc cfR kcX6 0 (by decide) fl_X6_7 rfl dX6_ends_16 ?_
        refine x_iload_n (pc := 19) hc dX6_ends_19 2 rfl ?_
        refine x_bipush (v := 60) (pc := 20) hc dX6_ends_20 (by decide) ?_
        refine x_iadd (pc := 22) hc dX6_ends_22 ?_
        refine x_as (nI (p + 60)) (nI_add _ _) ?_
        refine x_iload_n (pc := 23) hc dX6_ends_23 0 rfl ?_
        refine x_iadd (pc := 24) hc dX6_ends_24 ?_
        refine x_as (nI (p + 60 + (k + 1))) (nI_add _ _) ?_
        refine x_aload_n (pc := 25) hc dX6_ends_25 1 rfl ?_
        refine x_get (pc := 26) hc cfR kcX6 0 (by decide) fl_X6_7 rfl dX6_ends_26 ?_
        refine x_iload_n (pc := 29) hc dX6_ends_29 2 rfl ?_
        refine x_bipush (v := 60) (pc := 30) hc dX6_ends_30 (by decide) ?_
        refine x_iadd (pc := 32) hc dX6_ends_32 ?_
        refine x_as (nI (p + 60)) (nI_add _ _) ?_
        refine x_iload_n (pc := 33) hc dX6_ends_33 0 rfl ?_
        refine x_iadd (pc := 34) hc dX6_ends_34 ?_
        refine x_as (nI (p + 60 + (k + 1))) (nI_add _ _) ?_
        refine x_bipush (v := 60) (pc := 35) hc dX6_ends_35 (by decide) ?_
        refine x_isub (pc := 37) hc dX6_ends_37 ?_
        refine x_as (nI (p + (k + 1))) ((by
          show nI (p + 60 + (k + 1)) - nI 60 = _
          rw [pk_sub (by omega)]
          congr 1
          omega)) ?_
        refine x_iald (pc := 38) hc af0 (vp_in_nI (by omega) (by decide)) dX6_ends_38 ?_
        refine x_as ((e1Row f (k + 1)) ((k + 1))) (gm_ld (by omega) (by omega)) ?_
        refine x_iast (pc := 39) hc af0 (vp_in_nI (by omega) (by decide)) dX6_ends_39 ?_
        refine x_G (gm_st (i := 60 + (k + 1)) (by omega) (by omega)) ?_
        refine x_fn (fun z => GM G p s z (lnRow f m 20 20)) (fun f11 ef11 => ?_)
        refine x_iinc (pc := 40) (L' := [(2, .int (nI k)), (0, .ref (w.2.2 239)), (1, .int (nI p))]) hc dX6_ends_40 0 rfl (nI k) (pk_m1 _) (by decide) rfl ?_
        refine x_goto (pc := 43) hc dX6_ends_43 9 (by decide) ?_
        refine x_loc [0, 1, 2] rfl ?_
        rw [ef11, e1Row_up f k (by omega) (by omega)]
        exact ih k (by omega) (by omega)
  refine x_loc [0, 1, 2] rfl ?_
  have z9 := e1Row_0 f
  have z8 := loop9 181 239 (by omega) (by omega)
  rw [z9] at z8
  exact z8
