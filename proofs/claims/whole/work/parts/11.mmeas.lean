theorem rSet_n (f : Nat → Int32) (k : Nat) (t z : Int32) (i : Nat) (h : i < 328 ∨ (328 + 5 * k + 5 ≤ i ∧ i ≠ 351) ∨ (328 ≤ i ∧ i < 328 + 5 * k)) : i ≠ 351 → rSet f k t z i = f i := by
  intro h2
  unfold rSet
  split
  · split
    · unfold rSetE rSetA
      rw [upd_n _ _ (by omega), upd_n _ _ (by omega), upd_n _ _ (by omega), upd_n _ _ (by omega), upd_n _ _ (by omega)]
    · unfold rSetE rSetB
      rw [upd_n _ _ (by omega), upd_n _ _ (by omega), upd_n _ _ (by omega), upd_n _ _ (by omega)]
  · unfold rSetE
    rw [upd_n _ _ (by omega), upd_n _ _ (by omega)]
def rSets (f : Nat → Int32) (t z : Int32) : Nat → Nat → Int32
  | 0 => f
  | k + 1 => rSet (rSets f t z k) k t z
theorem rSets_n (f : Nat → Int32) (t z : Int32) (i : Nat) (h : i < 328) : ∀ k, k ≤ 4 → rSets f t z k i = f i
  | 0 => fun _ => rfl
  | k + 1 => fun hk => by
    show rSet (rSets f t z k) k t z i = f i
    rw [rSet_n _ _ _ _ _ (Or.inl h) (by omega), rSets_n f t z i h k (by omega)]
def rPre (f : Nat → Int32) (w told : Int32) (d : Nat) (t z : Int32) : Nat → Int32 :=
  upd (upd (upd (upd (upd f (20 + d) told) (40 + d) w) 348 (upd (upd f (20 + d) told) (40 + d) w 348 + (if z = 0 then 0 else if t = 0 then 0 else 1))) (348 + 1) (upd (upd (upd f (20 + d) told) (40 + d) w) 348 (upd (upd f (20 + d) told) (40 + d) w 348 + (if z = 0 then 0 else if t = 0 then 0 else 1)) (348 + 1) + (if z = 0 then 0 else if t = 0 then 1 else 0))) (348 + 2)
    (upd (upd (upd (upd f (20 + d) told) (40 + d) w) 348 (upd (upd f (20 + d) told) (40 + d) w 348 + (if z = 0 then 0 else if t = 0 then 0 else 1))) (348 + 1) (upd (upd (upd f (20 + d) told) (40 + d) w) 348 (upd (upd f (20 + d) told) (40 + d) w 348 + (if z = 0 then 0 else if t = 0 then 0 else 1)) (348 + 1) + (if z = 0 then 0 else if t = 0 then 1 else 0)) (348 + 2) + (if z = 0 then (if t = 0 then 0 else 1) else 0))
theorem rPre_n (f : Nat → Int32) (w told : Int32) (d : Nat) (t z : Int32) (i : Nat) (hd : d < 20) (h : i < 20 ∨ 60 ≤ i) (h2 : i < 348 ∨ 351 ≤ i) : rPre f w told d t z i = f i := by
  unfold rPre
  rw [upd_n _ _ (by omega), upd_n _ _ (by omega), upd_n _ _ (by omega), upd_n _ _ (by omega), upd_n _ _ (by omega)]
def rSettled (f : Nat → Int32) (w told : Int32) (d : Nat) (t z : Int32) : Nat → Int32 := rSets (rPre f w told d t z) t z 4
def rMid (f : Nat → Int32) (w told : Int32) (d : Nat) (t z : Int32) : Nat → Int32 :=
  upd (upd (upd (rSettled f w told d t z) 352 (rSettled f w told d t z 352 + szI (w - told))) 353 (upd (rSettled f w told d t z) 352 (rSettled f w told d t z 352 + szI (w - told)) 353 + 1)) 300 (nI (d + 1))
theorem rMid_n (f : Nat → Int32) (w told : Int32) (d : Nat) (t z : Int32) (i : Nat) (hd : d < 20) (h : i < 20 ∨ 60 ≤ i) (h2 : i < 328) (h3 : i ≠ 300) : rMid f w told d t z i = f i := by
  unfold rMid
  rw [upd_n _ _ (by omega), upd_n _ _ (by omega), upd_n _ _ (by omega)]
  unfold rSettled
  rw [rSets_n _ _ _ _ h2 4 (by omega), rPre_n _ _ _ _ _ _ _ hd h (by omega)]
def rT (f : Nat → Int32) (d : Nat) : Int32 := b01 (rTold f d ≤ f (303 + 2))
def rGo (f : Nat → Int32) (w : Int32) (d : Nat) : Nat → Int32 := rMid f w (rTold f d) d (rT f d) (b01 (w ≤ 0))
def rMeas (f : Nat → Int32) (w : Int32) (d r : Nat) : Nat → Int32 := if d + 1 = 20 then rEnds (rGo f w d) r else rGo f w d
def rMis (f m : Nat → Int32) (w : Int32) (d : Nat) : Nat → Int32 := if d + 1 = 20 then lnRow (rGo f w d) m 20 20 else m
set_option maxHeartbeats 4000000 in
set_option maxRecDepth 100000 in
theorem m_X6_measures {w : WT} (hI : xI w) (l : Launch) (G : GS) (v : Int32) (d c r : Nat) (p : Nat) (s f m : Nat → Int32) (hp : p ≤ 354) (hd : d < 20) (h0 : f 300 = nI d) (hs : rSn f c) (h3 : h303 p s f r) : Mi w l yX6_measures cX6_measures 8 (some .int) ⟨5, 0, 0, 111⟩ [.ref (w.2.2 239), .int (nI p), .int v] (GM G p s f m) (fun v' G' => v' = v - rTold f d ∧ G' = GM G p s (rMeas f v d r) (rMis f m v d)) := by
  refine mk_i (L0 := [(0, .ref (w.2.2 239)), (1, .int (nI p)), (2, .int v)]) hI (by decide +kernel) rfl (Nat.le_of_ble_eq_true rfl) (fun _ _ _ => rfl) (fun K hc hret => ?_)
  refine x_aload_n (pc := 0) hc dX6_measures_0 0 rfl ?_
  refine x_get (pc := 1) hc cfR kcX6 0 (by decide) fl_X6_7 rfl dX6_measures_1 ?_
  refine x_iload_n (pc := 4) hc dX6_measures_4 1 rfl ?_
  refine x_sipush (v := 300) (pc := 5) hc dX6_measures_5 (by decide) ?_
  refine x_iadd (pc := 8) hc dX6_measures_8 ?_
  refine x_as (nI (p + 300)) (nI_add _ _) ?_
  refine x_iald (pc := 9) hc af0 (vp_in_nI (by omega) (by decide)) dX6_measures_9 ?_
  refine x_as (f 300) (gm_ld (by omega) (by omega)) ?_
  refine x_as (nI d) h0 ?_
  refine x_istore_n (pc := 10) (L' := [(3, .int (nI d)), (0, .ref (w.2.2 239)), (1, .int (nI p)), (2, .int v)]) hc dX6_measures_10 (by decide) rfl ?_
  refine x_aload_n (pc := 11) hc dX6_measures_11 1 rfl ?_
  refine x_iload_n (pc := 12) hc dX6_measures_12 2 rfl ?_
  refine x_iload_n (pc := 13) hc dX6_measures_13 0 rfl ?_
  refine x_callVi (pc := 14) hc cl_X6_66 cfR kcX6 [.int (nI p), .int (nI d)] (m_X6_foretold hI (kl K) G d c p s f m (by omega) hd hs) rfl rfl (by simp [Value.category]) rfl rfl ⟨by decide, by decide⟩ dX6_measures_14 (fun r14 Gc14 q14 => ?_)
  obtain ⟨er14, eGc14⟩ := q14
  rw [eGc14]
  subst er14
  refine x_nm (fun x17 ex17 => ?_)
  refine x_istore (pc := 17) (L' := [(4, .int x17), (3, .int (nI d)), (0, .ref (w.2.2 239)), (1, .int (nI p)), (2, .int v)]) hc dX6_measures_17 (by decide) rfl ?_
  refine x_iload (pc := 19) hc dX6_measures_19 0 rfl ?_
  refine x_aload_n (pc := 21) hc dX6_measures_21 2 rfl ?_
  refine x_get (pc := 22) hc cfR kcX6 0 (by decide) fl_X6_7 rfl dX6_measures_22 ?_
  refine x_iload_n (pc := 25) hc dX6_measures_25 3 rfl ?_
  refine x_sipush (v := 303) (pc := 26) hc dX6_measures_26 (by decide) ?_
  refine x_iadd (pc := 29) hc dX6_measures_29 ?_
  refine x_as (nI (p + 303)) (nI_add _ _) ?_
  refine x_iconst (v := 2) (pc := 30) hc dX6_measures_30 (by decide) ?_
  refine x_iadd (pc := 31) hc dX6_measures_31 ?_
  refine x_as (nI (p + 303 + 2)) (nI_add _ _) ?_
  refine x_iald (pc := 32) hc af0 (vp_in_nI (by omega) (by decide)) dX6_measures_32 ?_
  refine x_as (f (303 + 2)) (gm_ld (by omega) (by omega)) ?_
  refine x_icmp_gt (pc := 33) hc dX6_measures_33 40 (by decide) (fun c33 => ?_) (fun c33 => ?_)
  · refine x_iconst (v := 0) (pc := 40) hc dX6_measures_40 (by decide) ?_
    refine x_istore (pc := 41) (L' := [(5, .int 0), (4, .int x17), (3, .int (nI d)), (0, .ref (w.2.2 239)), (1, .int (nI p)), (2, .int v)]) hc dX6_measures_41 (by decide) rfl ?_
    refine x_iload_n (pc := 43) hc dX6_measures_43 5 rfl ?_
    refine x_if_gt (pc := 44) hc dX6_measures_44 51 (by decide) (fun c44 => ?_) (fun c44 => ?_)
    · refine x_iconst (v := 0) (pc := 51) hc dX6_measures_51 (by decide) ?_
      refine x_istore (pc := 52) (L' := [(6, .int 0), (5, .int 0), (4, .int x17), (3, .int (nI d)), (0, .ref (w.2.2 239)), (1, .int (nI p)), (2, .int v)]) hc dX6_measures_52 (by decide) rfl ?_
      refine x_aload_n (pc := 54) hc dX6_measures_54 4 rfl ?_
      refine x_get (pc := 55) hc cfR kcX6 0 (by decide) fl_X6_7 rfl dX6_measures_55 ?_
      refine x_iload_n (pc := 58) hc dX6_measures_58 5 rfl ?_
      refine x_bipush (v := 20) (pc := 59) hc dX6_measures_59 (by decide) ?_
      refine x_iadd (pc := 61) hc dX6_measures_61 ?_
      refine x_as (nI (p + 20)) (nI_add _ _) ?_
      refine x_iload_n (pc := 62) hc dX6_measures_62 3 rfl ?_
      refine x_iadd (pc := 63) hc dX6_measures_63 ?_
      refine x_as (nI (p + 20 + d)) (nI_add _ _) ?_
      refine x_iload (pc := 64) hc dX6_measures_64 2 rfl ?_
      refine x_iast (pc := 66) hc af0 (vp_in_nI (by omega) (by decide)) dX6_measures_66 ?_
      refine x_G (gm_st (i := 20 + d) (by omega) (by omega)) ?_
      refine x_fn (fun z => GM G p s z m) (fun f1 ef1 => ?_)
      refine x_aload_n (pc := 67) hc dX6_measures_67 4 rfl ?_
      refine x_get (pc := 68) hc cfR kcX6 0 (by decide) fl_X6_7 rfl dX6_measures_68 ?_
      refine x_iload_n (pc := 71) hc dX6_measures_71 5 rfl ?_
      refine x_bipush (v := 40) (pc := 72) hc dX6_measures_72 (by decide) ?_
      refine x_iadd (pc := 74) hc dX6_measures_74 ?_
      refine x_as (nI (p + 40)) (nI_add _ _) ?_
      refine x_iload_n (pc := 75) hc dX6_measures_75 3 rfl ?_
      refine x_iadd (pc := 76) hc dX6_measures_76 ?_
      refine x_as (nI (p + 40 + d)) (nI_add _ _) ?_
      refine x_iload_n (pc := 77) hc dX6_measures_77 6 rfl ?_
      refine x_iast (pc := 78) hc af0 (vp_in_nI (by omega) (by decide)) dX6_measures_78 ?_
      refine x_G (gm_st (i := 40 + d) (by omega) (by omega)) ?_
      refine x_fn (fun z => GM G p s z m) (fun f2 ef2 => ?_)
      refine x_aload_n (pc := 79) hc dX6_measures_79 4 rfl ?_
      refine x_get (pc := 80) hc cfR kcX6 0 (by decide) fl_X6_7 rfl dX6_measures_80 ?_
      refine x_iload_n (pc := 83) hc dX6_measures_83 5 rfl ?_
      refine x_sipush (v := 348) (pc := 84) hc dX6_measures_84 (by decide) ?_
      refine x_iadd (pc := 87) hc dX6_measures_87 ?_
      refine x_as (nI (p + 348)) (nI_add _ _) ?_
      refine x_dup2ir (pc := 88) hc dX6_measures_88 ?_
      refine x_iald (pc := 89) hc af0 (vp_in_nI (by omega) (by decide)) dX6_measures_89 ?_
      refine x_as (f2 348) (gm_ld (by omega) (by omega)) ?_
      refine x_iload (pc := 90) hc dX6_measures_90 0 rfl ?_
      refine x_if_eq (pc := 92) hc dX6_measures_92 104 (by decide) (fun c92 => ?_) (fun c92 => ?_)
      · refine x_iconst (v := 0) (pc := 104) hc dX6_measures_104 (by decide) ?_
        refine x_iadd (pc := 105) hc dX6_measures_105 ?_
        refine x_iast (pc := 106) hc af0 (vp_in_nI (by omega) (by decide)) dX6_measures_106 ?_
        refine x_G (gm_st (i := 348) (by omega) (by omega)) ?_
        refine x_fn (fun z => GM G p s z m) (fun f3 ef3 => ?_)
        refine x_aload_n (pc := 107) hc dX6_measures_107 4 rfl ?_
        refine x_get (pc := 108) hc cfR kcX6 0 (by decide) fl_X6_7 rfl dX6_measures_108 ?_
        refine x_iload_n (pc := 111) hc dX6_measures_111 5 rfl ?_
        refine x_sipush (v := 348) (pc := 112) hc dX6_measures_112 (by decide) ?_
        refine x_iadd (pc := 115) hc dX6_measures_115 ?_
        refine x_as (nI (p + 348)) (nI_add _ _) ?_
        refine x_iconst (v := 1) (pc := 116) hc dX6_measures_116 (by decide) ?_
        refine x_iadd (pc := 117) hc dX6_measures_117 ?_
        refine x_as (nI (p + 348 + 1)) (nI_add _ _) ?_
        refine x_dup2ir (pc := 118) hc dX6_measures_118 ?_
        refine x_iald (pc := 119) hc af0 (vp_in_nI (by omega) (by decide)) dX6_measures_119 ?_
        refine x_as (f3 (348 + 1)) (gm_ld (by omega) (by omega)) ?_
        refine x_iload (pc := 120) hc dX6_measures_120 0 rfl ?_
        refine x_if_eq (pc := 122) hc dX6_measures_122 134 (by decide) (fun c122 => ?_) (fun c122 => ?_)
        · refine x_iconst (v := 0) (pc := 134) hc dX6_measures_134 (by decide) ?_
          refine x_iadd (pc := 135) hc dX6_measures_135 ?_
          refine x_iast (pc := 136) hc af0 (vp_in_nI (by omega) (by decide)) dX6_measures_136 ?_
          refine x_G (gm_st (i := 348 + 1) (by omega) (by omega)) ?_
          refine x_fn (fun z => GM G p s z m) (fun f4 ef4 => ?_)
          refine x_aload_n (pc := 137) hc dX6_measures_137 4 rfl ?_
          refine x_get (pc := 138) hc cfR kcX6 0 (by decide) fl_X6_7 rfl dX6_measures_138 ?_
          refine x_iload_n (pc := 141) hc dX6_measures_141 5 rfl ?_
          refine x_sipush (v := 348) (pc := 142) hc dX6_measures_142 (by decide) ?_
          refine x_iadd (pc := 145) hc dX6_measures_145 ?_
          refine x_as (nI (p + 348)) (nI_add _ _) ?_
          refine x_iconst (v := 2) (pc := 146) hc dX6_measures_146 (by decide) ?_
          refine x_iadd (pc := 147) hc dX6_measures_147 ?_
          refine x_as (nI (p + 348 + 2)) (nI_add _ _) ?_
          refine x_dup2ir (pc := 148) hc dX6_measures_148 ?_
          refine x_iald (pc := 149) hc af0 (vp_in_nI (by omega) (by decide)) dX6_measures_149 ?_
          refine x_as (f4 (348 + 2)) (gm_ld (by omega) (by omega)) ?_
          refine x_iload (pc := 150) hc dX6_measures_150 0 rfl ?_
          refine x_if_ne (pc := 152) hc dX6_measures_152 164 (by decide) (fun c152 => ?_) (fun c152 => ?_)
          · exact absurd c152 (by decide)
          · refine x_iload (pc := 155) hc dX6_measures_155 1 rfl ?_
            refine x_if_eq (pc := 157) hc dX6_measures_157 164 (by decide) (fun c157 => ?_) (fun c157 => ?_)
            · refine x_iconst (v := 0) (pc := 164) hc dX6_measures_164 (by decide) ?_
              refine x_iadd (pc := 165) hc dX6_measures_165 ?_
              refine x_iast (pc := 166) hc af0 (vp_in_nI (by omega) (by decide)) dX6_measures_166 ?_
              refine x_G (gm_st (i := 348 + 2) (by omega) (by omega)) ?_
              refine x_fn (fun z => GM G p s z m) (fun f5 ef5 => ?_)
              refine x_iconst (v := 0) (pc := 167) hc dX6_measures_167 (by decide) ?_
              refine x_istore (pc := 168) (L' := [(7, .int 0), (6, .int 0), (5, .int 0), (4, .int x17), (3, .int (nI d)), (0, .ref (w.2.2 239)), (1, .int (nI p)), (2, .int v)]) hc dX6_measures_168 (by decide) rfl ?_
              have hf5 : f5 = rPre f v (rTold f d) d 0 0 := by
                subst ex17
                subst ef1
                subst ef2
                subst ef3
                subst ef4
                subst ef5
                rfl
              subst ex17
              have hT : rT f d = 0 := b01_neg (Int32.not_le.mpr c33)
              have hZ : b01 (v ≤ 0) = 0 := b01_neg (Int32.not_le.mpr c44)
              have hgo : rGo f v d = rMid f v (rTold f d) d 0 0 := by unfold rGo; rw [hT, hZ]
              have loop170 : ∀ (n1 : Nat) (k : Nat), k ≤ 4 → 4 < k + n1 → XX w K 8 (GM G p s (rSets (rPre f v (rTold f d) d 0 0) 0 0 k) m) 170 [(7, .int (nI k)), (6, .int 0), (5, .int 0), (4, .int (rTold f d)), (3, .int (nI d)), (0, .ref (w.2.2 239)), (1, .int (nI p)), (2, .int v)] [] := by
                intro n1
                induction n1 with
                | zero => intro k hk hf; omega
                | succ n1 ih =>
                  intro k hk hf
                  refine x_iload (pc := 170) hc dX6_measures_170 0 rfl ?_
                  refine x_iconst (v := 4) (pc := 172) hc dX6_measures_172 (by decide) ?_
                  refine x_icmp_ge (pc := 173) hc dX6_measures_173 193 (by decide) (fun c173 => ?_) (fun c173 => ?_)
                  · have c173 : 4 ≤ k := (nI_leI (a := 4) (b := k) (by omega) (by omega)).mp c173
                    refine x_aload_n (pc := 193) hc dX6_measures_193 5 rfl ?_
                    refine x_get (pc := 194) hc cfR kcX6 0 (by decide) fl_X6_7 rfl dX6_measures_194 ?_
                    refine x_iload_n (pc := 197) hc dX6_measures_197 6 rfl ?_
                    refine x_sipush (v := 352) (pc := 198) hc dX6_measures_198 (by decide) ?_
                    refine x_iadd (pc := 201) hc dX6_measures_201 ?_
                    refine x_as (nI (p + 352)) (nI_add _ _) ?_
                    refine x_dup2ir (pc := 202) hc dX6_measures_202 ?_
                    refine x_iald (pc := 203) hc af0 (vp_in_nI (by omega) (by decide)) dX6_measures_203 ?_
                    refine x_as ((rSets (rPre f v (rTold f d) d 0 0) 0 0 k) 352) (gm_ld (by omega) (by omega)) ?_
                    refine x_iload_n (pc := 204) hc dX6_measures_204 7 rfl ?_
                    refine x_iload (pc := 205) hc dX6_measures_205 3 rfl ?_
                    refine x_isub (pc := 207) hc dX6_measures_207 ?_
                    refine x_callSi (pc := 208) hc cl_X6_73 [.int (v - (rTold f d))] (m_X6_size hI (kl K) (GM G p s (rSets (rPre f v (rTold f d) d 0 0) 0 0 k) m) (v - (rTold f d))) rfl rfl (by simp [Value.category]) rfl rfl ⟨by decide, by decide⟩ dX6_measures_208 (fun r208 Gc208 q208 => ?_)
                    obtain ⟨er208, eGc208⟩ := q208
                    rw [eGc208]
                    subst er208
                    refine x_iadd (pc := 211) hc dX6_measures_211 ?_
                    refine x_iast (pc := 212) hc af0 (vp_in_nI (by omega) (by decide)) dX6_measures_212 ?_
                    refine x_G (gm_st (i := 352) (by omega) (by omega)) ?_
                    refine x_fn (fun z => GM G p s z m) (fun f6 ef6 => ?_)
                    refine x_aload_n (pc := 213) hc dX6_measures_213 5 rfl ?_
                    refine x_get (pc := 214) hc cfR kcX6 0 (by decide) fl_X6_7 rfl dX6_measures_214 ?_
                    refine x_iload_n (pc := 217) hc dX6_measures_217 6 rfl ?_
                    refine x_sipush (v := 353) (pc := 218) hc dX6_measures_218 (by decide) ?_
                    refine x_iadd (pc := 221) hc dX6_measures_221 ?_
                    refine x_as (nI (p + 353)) (nI_add _ _) ?_
                    refine x_dup2ir (pc := 222) hc dX6_measures_222 ?_
                    refine x_iald (pc := 223) hc af0 (vp_in_nI (by omega) (by decide)) dX6_measures_223 ?_
                    refine x_as (f6 353) (gm_ld (by omega) (by omega)) ?_
                    refine x_iconst (v := 1) (pc := 224) hc dX6_measures_224 (by decide) ?_
                    refine x_iadd (pc := 225) hc dX6_measures_225 ?_
                    refine x_iast (pc := 226) hc af0 (vp_in_nI (by omega) (by decide)) dX6_measures_226 ?_
                    refine x_G (gm_st (i := 353) (by omega) (by omega)) ?_
                    refine x_fn (fun z => GM G p s z m) (fun f7 ef7 => ?_)
                    refine x_aload_n (pc := 227) hc dX6_measures_227 5 rfl ?_
                    refine x_get (pc := 228) hc cfR kcX6 0 (by decide) fl_X6_7 rfl dX6_measures_228 ?_
                    refine x_iload_n (pc := 231) hc dX6_measures_231 6 rfl ?_
                    refine x_sipush (v := 300) (pc := 232) hc dX6_measures_232 (by decide) ?_
                    refine x_iadd (pc := 235) hc dX6_measures_235 ?_
                    refine x_as (nI (p + 300)) (nI_add _ _) ?_
                    refine x_dup2ir (pc := 236) hc dX6_measures_236 ?_
                    refine x_iald (pc := 237) hc af0 (vp_in_nI (by omega) (by decide)) dX6_measures_237 ?_
                    refine x_as (f7 300) (gm_ld (by omega) (by omega)) ?_
                    refine x_as (nI d) (by
                      rw [ef7, upd_n _ _ (by omega), ef6, upd_n _ _ (by omega), rSets_n _ _ _ _ (by omega) k (by omega), rPre_n _ _ _ _ _ _ _ hd (by omega) (by omega), h0]) ?_
                    refine x_iconst (v := 1) (pc := 238) hc dX6_measures_238 (by decide) ?_
                    refine x_iadd (pc := 239) hc dX6_measures_239 ?_
                    refine x_as (nI (d + 1)) (nI_add _ _) ?_
                    refine x_iast (pc := 240) hc af0 (vp_in_nI (by omega) (by decide)) dX6_measures_240 ?_
                    refine x_G (gm_st (i := 300) (by omega) (by omega)) ?_
                    refine x_fn (fun z => GM G p s z m) (fun f8 ef8 => ?_)
                    have k4 : k = 4 := by omega
                    subst k4
                    have hg : f8 = rGo f v d := by
                      rw [hgo]
                      subst ef6
                      subst ef7
                      subst ef8
                      rfl
                    rw [hg]
                    refine x_aload_n (pc := 241) hc dX6_measures_241 5 rfl ?_
                    refine x_get (pc := 242) hc cfR kcX6 0 (by decide) fl_X6_7 rfl dX6_measures_242 ?_
                    refine x_iload_n (pc := 245) hc dX6_measures_245 6 rfl ?_
                    refine x_sipush (v := 300) (pc := 246) hc dX6_measures_246 (by decide) ?_
                    refine x_iadd (pc := 249) hc dX6_measures_249 ?_
                    refine x_as (nI (p + 300)) (nI_add _ _) ?_
                    refine x_iald (pc := 250) hc af0 (vp_in_nI (by omega) (by decide)) dX6_measures_250 ?_
                    refine x_as ((rGo f v d) 300) (gm_ld (by omega) (by omega)) ?_
                    refine x_as (nI (d + 1)) (by rw [hgo]; exact upd_s _ _ _) ?_
                    refine x_bipush (v := 20) (pc := 251) hc dX6_measures_251 (by decide) ?_
                    refine x_icmp_ne (pc := 253) hc dX6_measures_253 261 (by decide) (fun c253 => ?_) (fun c253 => ?_)
                    · have c253 : ¬ d + 1 = 20 := fun h9 => c253 ((nI_eq (a := d + 1) (b := 20) (by omega) (by omega)).mpr h9)
                      refine x_iload_n (pc := 261) hc dX6_measures_261 7 rfl ?_
                      refine x_iload (pc := 262) hc dX6_measures_262 3 rfl ?_
                      refine x_isub (pc := 264) hc dX6_measures_264 ?_
                      exact hret _ _ _ _ dX6_measures_265 ⟨rfl, by unfold rMeas rMis; rw [if_neg c253, if_neg c253]⟩
                    · have c253 : d + 1 = 20 := (nI_eq (a := d + 1) (b := 20) (by omega) (by omega)).mp c253
                      refine x_aload_n (pc := 256) hc dX6_measures_256 5 rfl ?_
                      refine x_iload_n (pc := 257) hc dX6_measures_257 6 rfl ?_
                      refine x_callVv (pc := 258) hc cl_X6_76 cfR kcX6 [.int (nI p)] (m_X6_ends hI (kl K) G r p s ((rGo f v d)) m (by omega) (by rw [hgo, ← c253]; exact upd_s _ _ _) (by
                        refine ⟨h3.1, ?_⟩
                        have e3 : rGo f v d 303 = f 303 := by rw [hgo]; exact rMid_n _ _ _ _ _ _ _ hd (by omega) (by omega) (by omega)
                        rw [e3]
                        exact h3.2)) rfl rfl (by simp [Value.category]) rfl rfl ⟨by decide, by decide⟩ dX6_measures_258 (fun Gc258 q258 => ?_)
                      rw [q258]
                      refine x_iload_n (pc := 261) hc dX6_measures_261 7 rfl ?_
                      refine x_iload (pc := 262) hc dX6_measures_262 3 rfl ?_
                      refine x_isub (pc := 264) hc dX6_measures_264 ?_
                      exact hret _ _ _ _ dX6_measures_265 ⟨rfl, by unfold rMeas rMis; rw [if_pos c253, if_pos c253]⟩
                  · have c173 : ¬ 4 ≤ k := fun h9 => c173 ((nI_leI (a := 4) (b := k) (by omega) (by omega)).mpr h9)
                    refine x_aload_n (pc := 176) hc dX6_measures_176 5 rfl ?_
                    refine x_iload_n (pc := 177) hc dX6_measures_177 6 rfl ?_
                    refine x_iload (pc := 178) hc dX6_measures_178 0 rfl ?_
                    refine x_iload (pc := 180) hc dX6_measures_180 2 rfl ?_
                    refine x_iload (pc := 182) hc dX6_measures_182 1 rfl ?_
                    refine x_callVv (pc := 184) hc cl_X6_69 cfR kcX6 [.int (nI p), .int (nI k), .int 0, .int 0] (m_X6_settles hI (kl K) G k 0 0 p s ((rSets (rPre f v (rTold f d) d 0 0) 0 0 k)) m (by omega) (by omega)) rfl rfl (by simp [Value.category]) rfl rfl ⟨by decide, by decide⟩ dX6_measures_184 (fun Gc184 q184 => ?_)
                    rw [q184]
                    refine x_iinc (pc := 187) (L' := [(7, .int (nI (k + 1))), (6, .int 0), (5, .int 0), (4, .int (rTold f d)), (3, .int (nI d)), (0, .ref (w.2.2 239)), (1, .int (nI p)), (2, .int v)]) hc dX6_measures_187 0 rfl (nI (k + 1)) (nI_1 _) (by decide) rfl ?_
                    refine x_goto (pc := 190) hc dX6_measures_190 170 (by decide) ?_
                    refine x_loc [0, 1, 2, 3, 4, 5, 6, 7] rfl ?_
                    exact ih (k + 1) (by omega) (by omega)
              refine x_loc [0, 1, 2, 3, 4, 5, 6, 7] rfl ?_
              have z8 := loop170 5 0 (by omega) (by omega)
              rw [hf5]
              exact z8
            · exact absurd (by decide) c157
        · exact absurd (by decide) c122
      · exact absurd (by decide) c92
    · refine x_iconst (v := 1) (pc := 47) hc dX6_measures_47 (by decide) ?_
      refine x_goto (pc := 48) hc dX6_measures_48 52 (by decide) ?_
      refine x_istore (pc := 52) (L' := [(6, .int 1), (5, .int 0), (4, .int x17), (3, .int (nI d)), (0, .ref (w.2.2 239)), (1, .int (nI p)), (2, .int v)]) hc dX6_measures_52 (by decide) rfl ?_
      refine x_aload_n (pc := 54) hc dX6_measures_54 4 rfl ?_
      refine x_get (pc := 55) hc cfR kcX6 0 (by decide) fl_X6_7 rfl dX6_measures_55 ?_
      refine x_iload_n (pc := 58) hc dX6_measures_58 5 rfl ?_
      refine x_bipush (v := 20) (pc := 59) hc dX6_measures_59 (by decide) ?_
      refine x_iadd (pc := 61) hc dX6_measures_61 ?_
      refine x_as (nI (p + 20)) (nI_add _ _) ?_
      refine x_iload_n (pc := 62) hc dX6_measures_62 3 rfl ?_
      refine x_iadd (pc := 63) hc dX6_measures_63 ?_
      refine x_as (nI (p + 20 + d)) (nI_add _ _) ?_
      refine x_iload (pc := 64) hc dX6_measures_64 2 rfl ?_
      refine x_iast (pc := 66) hc af0 (vp_in_nI (by omega) (by decide)) dX6_measures_66 ?_
      refine x_G (gm_st (i := 20 + d) (by omega) (by omega)) ?_
      refine x_fn (fun z => GM G p s z m) (fun f9 ef9 => ?_)
      refine x_aload_n (pc := 67) hc dX6_measures_67 4 rfl ?_
      refine x_get (pc := 68) hc cfR kcX6 0 (by decide) fl_X6_7 rfl dX6_measures_68 ?_
      refine x_iload_n (pc := 71) hc dX6_measures_71 5 rfl ?_
      refine x_bipush (v := 40) (pc := 72) hc dX6_measures_72 (by decide) ?_
      refine x_iadd (pc := 74) hc dX6_measures_74 ?_
      refine x_as (nI (p + 40)) (nI_add _ _) ?_
      refine x_iload_n (pc := 75) hc dX6_measures_75 3 rfl ?_
      refine x_iadd (pc := 76) hc dX6_measures_76 ?_
      refine x_as (nI (p + 40 + d)) (nI_add _ _) ?_
      refine x_iload_n (pc := 77) hc dX6_measures_77 6 rfl ?_
      refine x_iast (pc := 78) hc af0 (vp_in_nI (by omega) (by decide)) dX6_measures_78 ?_
      refine x_G (gm_st (i := 40 + d) (by omega) (by omega)) ?_
      refine x_fn (fun z => GM G p s z m) (fun f10 ef10 => ?_)
      refine x_aload_n (pc := 79) hc dX6_measures_79 4 rfl ?_
      refine x_get (pc := 80) hc cfR kcX6 0 (by decide) fl_X6_7 rfl dX6_measures_80 ?_
      refine x_iload_n (pc := 83) hc dX6_measures_83 5 rfl ?_
      refine x_sipush (v := 348) (pc := 84) hc dX6_measures_84 (by decide) ?_
      refine x_iadd (pc := 87) hc dX6_measures_87 ?_
      refine x_as (nI (p + 348)) (nI_add _ _) ?_
      refine x_dup2ir (pc := 88) hc dX6_measures_88 ?_
      refine x_iald (pc := 89) hc af0 (vp_in_nI (by omega) (by decide)) dX6_measures_89 ?_
      refine x_as (f10 348) (gm_ld (by omega) (by omega)) ?_
      refine x_iload (pc := 90) hc dX6_measures_90 0 rfl ?_
      refine x_if_eq (pc := 92) hc dX6_measures_92 104 (by decide) (fun c92_1 => ?_) (fun c92_1 => ?_)
      · exact absurd c92_1 (by decide)
      · refine x_iload (pc := 95) hc dX6_measures_95 1 rfl ?_
        refine x_if_eq (pc := 97) hc dX6_measures_97 104 (by decide) (fun c97 => ?_) (fun c97 => ?_)
        · refine x_iconst (v := 0) (pc := 104) hc dX6_measures_104 (by decide) ?_
          refine x_iadd (pc := 105) hc dX6_measures_105 ?_
          refine x_iast (pc := 106) hc af0 (vp_in_nI (by omega) (by decide)) dX6_measures_106 ?_
          refine x_G (gm_st (i := 348) (by omega) (by omega)) ?_
          refine x_fn (fun z => GM G p s z m) (fun f11 ef11 => ?_)
          refine x_aload_n (pc := 107) hc dX6_measures_107 4 rfl ?_
          refine x_get (pc := 108) hc cfR kcX6 0 (by decide) fl_X6_7 rfl dX6_measures_108 ?_
          refine x_iload_n (pc := 111) hc dX6_measures_111 5 rfl ?_
          refine x_sipush (v := 348) (pc := 112) hc dX6_measures_112 (by decide) ?_
          refine x_iadd (pc := 115) hc dX6_measures_115 ?_
          refine x_as (nI (p + 348)) (nI_add _ _) ?_
          refine x_iconst (v := 1) (pc := 116) hc dX6_measures_116 (by decide) ?_
          refine x_iadd (pc := 117) hc dX6_measures_117 ?_
          refine x_as (nI (p + 348 + 1)) (nI_add _ _) ?_
          refine x_dup2ir (pc := 118) hc dX6_measures_118 ?_
          refine x_iald (pc := 119) hc af0 (vp_in_nI (by omega) (by decide)) dX6_measures_119 ?_
          refine x_as (f11 (348 + 1)) (gm_ld (by omega) (by omega)) ?_
          refine x_iload (pc := 120) hc dX6_measures_120 0 rfl ?_
          refine x_if_eq (pc := 122) hc dX6_measures_122 134 (by decide) (fun c122_1 => ?_) (fun c122_1 => ?_)
          · exact absurd c122_1 (by decide)
          · refine x_iload (pc := 125) hc dX6_measures_125 1 rfl ?_
            refine x_if_ne (pc := 127) hc dX6_measures_127 134 (by decide) (fun c127 => ?_) (fun c127 => ?_)
            · exact absurd c127 (by decide)
            · refine x_iconst (v := 1) (pc := 130) hc dX6_measures_130 (by decide) ?_
              refine x_goto (pc := 131) hc dX6_measures_131 135 (by decide) ?_
              refine x_iadd (pc := 135) hc dX6_measures_135 ?_
              refine x_iast (pc := 136) hc af0 (vp_in_nI (by omega) (by decide)) dX6_measures_136 ?_
              refine x_G (gm_st (i := 348 + 1) (by omega) (by omega)) ?_
              refine x_fn (fun z => GM G p s z m) (fun f12 ef12 => ?_)
              refine x_aload_n (pc := 137) hc dX6_measures_137 4 rfl ?_
              refine x_get (pc := 138) hc cfR kcX6 0 (by decide) fl_X6_7 rfl dX6_measures_138 ?_
              refine x_iload_n (pc := 141) hc dX6_measures_141 5 rfl ?_
              refine x_sipush (v := 348) (pc := 142) hc dX6_measures_142 (by decide) ?_
              refine x_iadd (pc := 145) hc dX6_measures_145 ?_
              refine x_as (nI (p + 348)) (nI_add _ _) ?_
              refine x_iconst (v := 2) (pc := 146) hc dX6_measures_146 (by decide) ?_
              refine x_iadd (pc := 147) hc dX6_measures_147 ?_
              refine x_as (nI (p + 348 + 2)) (nI_add _ _) ?_
              refine x_dup2ir (pc := 148) hc dX6_measures_148 ?_
              refine x_iald (pc := 149) hc af0 (vp_in_nI (by omega) (by decide)) dX6_measures_149 ?_
              refine x_as (f12 (348 + 2)) (gm_ld (by omega) (by omega)) ?_
              refine x_iload (pc := 150) hc dX6_measures_150 0 rfl ?_
              refine x_if_ne (pc := 152) hc dX6_measures_152 164 (by decide) (fun c152_1 => ?_) (fun c152_1 => ?_)
              · refine x_iconst (v := 0) (pc := 164) hc dX6_measures_164 (by decide) ?_
                refine x_iadd (pc := 165) hc dX6_measures_165 ?_
                refine x_iast (pc := 166) hc af0 (vp_in_nI (by omega) (by decide)) dX6_measures_166 ?_
                refine x_G (gm_st (i := 348 + 2) (by omega) (by omega)) ?_
                refine x_fn (fun z => GM G p s z m) (fun f13 ef13 => ?_)
                refine x_iconst (v := 0) (pc := 167) hc dX6_measures_167 (by decide) ?_
                refine x_istore (pc := 168) (L' := [(7, .int 0), (6, .int 1), (5, .int 0), (4, .int x17), (3, .int (nI d)), (0, .ref (w.2.2 239)), (1, .int (nI p)), (2, .int v)]) hc dX6_measures_168 (by decide) rfl ?_
                have hf5 : f13 = rPre f v (rTold f d) d 0 1 := by
                  subst ex17
                  subst ef9
                  subst ef10
                  subst ef11
                  subst ef12
                  subst ef13
                  rfl
                subst ex17
                have hT : rT f d = 0 := b01_neg (Int32.not_le.mpr c33)
                have hZ : b01 (v ≤ 0) = 1 := b01_pos (Int32.not_lt.mp c44)
                have hgo : rGo f v d = rMid f v (rTold f d) d 0 1 := by unfold rGo; rw [hT, hZ]
                have loop170 : ∀ (n1 : Nat) (k : Nat), k ≤ 4 → 4 < k + n1 → XX w K 8 (GM G p s (rSets (rPre f v (rTold f d) d 0 1) 0 1 k) m) 170 [(7, .int (nI k)), (6, .int 1), (5, .int 0), (4, .int (rTold f d)), (3, .int (nI d)), (0, .ref (w.2.2 239)), (1, .int (nI p)), (2, .int v)] [] := by
                  intro n1
                  induction n1 with
                  | zero => intro k hk hf; omega
                  | succ n1 ih =>
                    intro k hk hf
                    refine x_iload (pc := 170) hc dX6_measures_170 0 rfl ?_
                    refine x_iconst (v := 4) (pc := 172) hc dX6_measures_172 (by decide) ?_
                    refine x_icmp_ge (pc := 173) hc dX6_measures_173 193 (by decide) (fun c173_1 => ?_) (fun c173_1 => ?_)
                    · have c173_1 : 4 ≤ k := (nI_leI (a := 4) (b := k) (by omega) (by omega)).mp c173_1
                      refine x_aload_n (pc := 193) hc dX6_measures_193 5 rfl ?_
                      refine x_get (pc := 194) hc cfR kcX6 0 (by decide) fl_X6_7 rfl dX6_measures_194 ?_
                      refine x_iload_n (pc := 197) hc dX6_measures_197 6 rfl ?_
                      refine x_sipush (v := 352) (pc := 198) hc dX6_measures_198 (by decide) ?_
                      refine x_iadd (pc := 201) hc dX6_measures_201 ?_
                      refine x_as (nI (p + 352)) (nI_add _ _) ?_
                      refine x_dup2ir (pc := 202) hc dX6_measures_202 ?_
                      refine x_iald (pc := 203) hc af0 (vp_in_nI (by omega) (by decide)) dX6_measures_203 ?_
                      refine x_as ((rSets (rPre f v (rTold f d) d 0 1) 0 1 k) 352) (gm_ld (by omega) (by omega)) ?_
                      refine x_iload_n (pc := 204) hc dX6_measures_204 7 rfl ?_
                      refine x_iload (pc := 205) hc dX6_measures_205 3 rfl ?_
                      refine x_isub (pc := 207) hc dX6_measures_207 ?_
                      refine x_callSi (pc := 208) hc cl_X6_73 [.int (v - (rTold f d))] (m_X6_size hI (kl K) (GM G p s (rSets (rPre f v (rTold f d) d 0 1) 0 1 k) m) (v - (rTold f d))) rfl rfl (by simp [Value.category]) rfl rfl ⟨by decide, by decide⟩ dX6_measures_208 (fun r208_1 Gc208_1 q208_1 => ?_)
                      obtain ⟨er208_1, eGc208_1⟩ := q208_1
                      rw [eGc208_1]
                      subst er208_1
                      refine x_iadd (pc := 211) hc dX6_measures_211 ?_
                      refine x_iast (pc := 212) hc af0 (vp_in_nI (by omega) (by decide)) dX6_measures_212 ?_
                      refine x_G (gm_st (i := 352) (by omega) (by omega)) ?_
                      refine x_fn (fun z => GM G p s z m) (fun f14 ef14 => ?_)
                      refine x_aload_n (pc := 213) hc dX6_measures_213 5 rfl ?_
                      refine x_get (pc := 214) hc cfR kcX6 0 (by decide) fl_X6_7 rfl dX6_measures_214 ?_
                      refine x_iload_n (pc := 217) hc dX6_measures_217 6 rfl ?_
                      refine x_sipush (v := 353) (pc := 218) hc dX6_measures_218 (by decide) ?_
                      refine x_iadd (pc := 221) hc dX6_measures_221 ?_
                      refine x_as (nI (p + 353)) (nI_add _ _) ?_
                      refine x_dup2ir (pc := 222) hc dX6_measures_222 ?_
                      refine x_iald (pc := 223) hc af0 (vp_in_nI (by omega) (by decide)) dX6_measures_223 ?_
                      refine x_as (f14 353) (gm_ld (by omega) (by omega)) ?_
                      refine x_iconst (v := 1) (pc := 224) hc dX6_measures_224 (by decide) ?_
                      refine x_iadd (pc := 225) hc dX6_measures_225 ?_
                      refine x_iast (pc := 226) hc af0 (vp_in_nI (by omega) (by decide)) dX6_measures_226 ?_
                      refine x_G (gm_st (i := 353) (by omega) (by omega)) ?_
                      refine x_fn (fun z => GM G p s z m) (fun f15 ef15 => ?_)
                      refine x_aload_n (pc := 227) hc dX6_measures_227 5 rfl ?_
                      refine x_get (pc := 228) hc cfR kcX6 0 (by decide) fl_X6_7 rfl dX6_measures_228 ?_
                      refine x_iload_n (pc := 231) hc dX6_measures_231 6 rfl ?_
                      refine x_sipush (v := 300) (pc := 232) hc dX6_measures_232 (by decide) ?_
                      refine x_iadd (pc := 235) hc dX6_measures_235 ?_
                      refine x_as (nI (p + 300)) (nI_add _ _) ?_
                      refine x_dup2ir (pc := 236) hc dX6_measures_236 ?_
                      refine x_iald (pc := 237) hc af0 (vp_in_nI (by omega) (by decide)) dX6_measures_237 ?_
                      refine x_as (f15 300) (gm_ld (by omega) (by omega)) ?_
                      refine x_as (nI d) (by
                        rw [ef15, upd_n _ _ (by omega), ef14, upd_n _ _ (by omega), rSets_n _ _ _ _ (by omega) k (by omega), rPre_n _ _ _ _ _ _ _ hd (by omega) (by omega), h0]) ?_
                      refine x_iconst (v := 1) (pc := 238) hc dX6_measures_238 (by decide) ?_
                      refine x_iadd (pc := 239) hc dX6_measures_239 ?_
                      refine x_as (nI (d + 1)) (nI_add _ _) ?_
                      refine x_iast (pc := 240) hc af0 (vp_in_nI (by omega) (by decide)) dX6_measures_240 ?_
                      refine x_G (gm_st (i := 300) (by omega) (by omega)) ?_
                      refine x_fn (fun z => GM G p s z m) (fun f16 ef16 => ?_)
                      have k4 : k = 4 := by omega
                      subst k4
                      have hg : f16 = rGo f v d := by
                        rw [hgo]
                        subst ef14
                        subst ef15
                        subst ef16
                        rfl
                      rw [hg]
                      refine x_aload_n (pc := 241) hc dX6_measures_241 5 rfl ?_
                      refine x_get (pc := 242) hc cfR kcX6 0 (by decide) fl_X6_7 rfl dX6_measures_242 ?_
                      refine x_iload_n (pc := 245) hc dX6_measures_245 6 rfl ?_
                      refine x_sipush (v := 300) (pc := 246) hc dX6_measures_246 (by decide) ?_
                      refine x_iadd (pc := 249) hc dX6_measures_249 ?_
                      refine x_as (nI (p + 300)) (nI_add _ _) ?_
                      refine x_iald (pc := 250) hc af0 (vp_in_nI (by omega) (by decide)) dX6_measures_250 ?_
                      refine x_as ((rGo f v d) 300) (gm_ld (by omega) (by omega)) ?_
                      refine x_as (nI (d + 1)) (by rw [hgo]; exact upd_s _ _ _) ?_
                      refine x_bipush (v := 20) (pc := 251) hc dX6_measures_251 (by decide) ?_
                      refine x_icmp_ne (pc := 253) hc dX6_measures_253 261 (by decide) (fun c253_1 => ?_) (fun c253_1 => ?_)
                      · have c253_1 : ¬ d + 1 = 20 := fun h9 => c253_1 ((nI_eq (a := d + 1) (b := 20) (by omega) (by omega)).mpr h9)
                        refine x_iload_n (pc := 261) hc dX6_measures_261 7 rfl ?_
                        refine x_iload (pc := 262) hc dX6_measures_262 3 rfl ?_
                        refine x_isub (pc := 264) hc dX6_measures_264 ?_
                        exact hret _ _ _ _ dX6_measures_265 ⟨rfl, by unfold rMeas rMis; rw [if_neg c253_1, if_neg c253_1]⟩
                      · have c253_1 : d + 1 = 20 := (nI_eq (a := d + 1) (b := 20) (by omega) (by omega)).mp c253_1
                        refine x_aload_n (pc := 256) hc dX6_measures_256 5 rfl ?_
                        refine x_iload_n (pc := 257) hc dX6_measures_257 6 rfl ?_
                        refine x_callVv (pc := 258) hc cl_X6_76 cfR kcX6 [.int (nI p)] (m_X6_ends hI (kl K) G r p s ((rGo f v d)) m (by omega) (by rw [hgo, ← c253_1]; exact upd_s _ _ _) (by
                          refine ⟨h3.1, ?_⟩
                          have e3 : rGo f v d 303 = f 303 := by rw [hgo]; exact rMid_n _ _ _ _ _ _ _ hd (by omega) (by omega) (by omega)
                          rw [e3]
                          exact h3.2)) rfl rfl (by simp [Value.category]) rfl rfl ⟨by decide, by decide⟩ dX6_measures_258 (fun Gc258_1 q258_1 => ?_)
                        rw [q258_1]
                        refine x_iload_n (pc := 261) hc dX6_measures_261 7 rfl ?_
                        refine x_iload (pc := 262) hc dX6_measures_262 3 rfl ?_
                        refine x_isub (pc := 264) hc dX6_measures_264 ?_
                        exact hret _ _ _ _ dX6_measures_265 ⟨rfl, by unfold rMeas rMis; rw [if_pos c253_1, if_pos c253_1]⟩
                    · have c173_1 : ¬ 4 ≤ k := fun h9 => c173_1 ((nI_leI (a := 4) (b := k) (by omega) (by omega)).mpr h9)
                      refine x_aload_n (pc := 176) hc dX6_measures_176 5 rfl ?_
                      refine x_iload_n (pc := 177) hc dX6_measures_177 6 rfl ?_
                      refine x_iload (pc := 178) hc dX6_measures_178 0 rfl ?_
                      refine x_iload (pc := 180) hc dX6_measures_180 2 rfl ?_
                      refine x_iload (pc := 182) hc dX6_measures_182 1 rfl ?_
                      refine x_callVv (pc := 184) hc cl_X6_69 cfR kcX6 [.int (nI p), .int (nI k), .int 0, .int 1] (m_X6_settles hI (kl K) G k 0 1 p s ((rSets (rPre f v (rTold f d) d 0 1) 0 1 k)) m (by omega) (by omega)) rfl rfl (by simp [Value.category]) rfl rfl ⟨by decide, by decide⟩ dX6_measures_184 (fun Gc184_1 q184_1 => ?_)
                      rw [q184_1]
                      refine x_iinc (pc := 187) (L' := [(7, .int (nI (k + 1))), (6, .int 1), (5, .int 0), (4, .int (rTold f d)), (3, .int (nI d)), (0, .ref (w.2.2 239)), (1, .int (nI p)), (2, .int v)]) hc dX6_measures_187 0 rfl (nI (k + 1)) (nI_1 _) (by decide) rfl ?_
                      refine x_goto (pc := 190) hc dX6_measures_190 170 (by decide) ?_
                      refine x_loc [0, 1, 2, 3, 4, 5, 6, 7] rfl ?_
                      exact ih (k + 1) (by omega) (by omega)
                refine x_loc [0, 1, 2, 3, 4, 5, 6, 7] rfl ?_
                have z8 := loop170 5 0 (by omega) (by omega)
                rw [hf5]
                exact z8
              · exact absurd c152_1 (by decide)
        · exact absurd (by decide) c97
  · refine x_iconst (v := 1) (pc := 36) hc dX6_measures_36 (by decide) ?_
    refine x_goto (pc := 37) hc dX6_measures_37 41 (by decide) ?_
    refine x_istore (pc := 41) (L' := [(5, .int 1), (4, .int x17), (3, .int (nI d)), (0, .ref (w.2.2 239)), (1, .int (nI p)), (2, .int v)]) hc dX6_measures_41 (by decide) rfl ?_
    refine x_iload_n (pc := 43) hc dX6_measures_43 5 rfl ?_
    refine x_if_gt (pc := 44) hc dX6_measures_44 51 (by decide) (fun c44_1 => ?_) (fun c44_1 => ?_)
    · refine x_iconst (v := 0) (pc := 51) hc dX6_measures_51 (by decide) ?_
      refine x_istore (pc := 52) (L' := [(6, .int 0), (5, .int 1), (4, .int x17), (3, .int (nI d)), (0, .ref (w.2.2 239)), (1, .int (nI p)), (2, .int v)]) hc dX6_measures_52 (by decide) rfl ?_
      refine x_aload_n (pc := 54) hc dX6_measures_54 4 rfl ?_
      refine x_get (pc := 55) hc cfR kcX6 0 (by decide) fl_X6_7 rfl dX6_measures_55 ?_
      refine x_iload_n (pc := 58) hc dX6_measures_58 5 rfl ?_
      refine x_bipush (v := 20) (pc := 59) hc dX6_measures_59 (by decide) ?_
      refine x_iadd (pc := 61) hc dX6_measures_61 ?_
      refine x_as (nI (p + 20)) (nI_add _ _) ?_
      refine x_iload_n (pc := 62) hc dX6_measures_62 3 rfl ?_
      refine x_iadd (pc := 63) hc dX6_measures_63 ?_
      refine x_as (nI (p + 20 + d)) (nI_add _ _) ?_
      refine x_iload (pc := 64) hc dX6_measures_64 2 rfl ?_
      refine x_iast (pc := 66) hc af0 (vp_in_nI (by omega) (by decide)) dX6_measures_66 ?_
      refine x_G (gm_st (i := 20 + d) (by omega) (by omega)) ?_
      refine x_fn (fun z => GM G p s z m) (fun f17 ef17 => ?_)
      refine x_aload_n (pc := 67) hc dX6_measures_67 4 rfl ?_
      refine x_get (pc := 68) hc cfR kcX6 0 (by decide) fl_X6_7 rfl dX6_measures_68 ?_
      refine x_iload_n (pc := 71) hc dX6_measures_71 5 rfl ?_
      refine x_bipush (v := 40) (pc := 72) hc dX6_measures_72 (by decide) ?_
      refine x_iadd (pc := 74) hc dX6_measures_74 ?_
      refine x_as (nI (p + 40)) (nI_add _ _) ?_
      refine x_iload_n (pc := 75) hc dX6_measures_75 3 rfl ?_
      refine x_iadd (pc := 76) hc dX6_measures_76 ?_
      refine x_as (nI (p + 40 + d)) (nI_add _ _) ?_
      refine x_iload_n (pc := 77) hc dX6_measures_77 6 rfl ?_
      refine x_iast (pc := 78) hc af0 (vp_in_nI (by omega) (by decide)) dX6_measures_78 ?_
      refine x_G (gm_st (i := 40 + d) (by omega) (by omega)) ?_
      refine x_fn (fun z => GM G p s z m) (fun f18 ef18 => ?_)
      refine x_aload_n (pc := 79) hc dX6_measures_79 4 rfl ?_
      refine x_get (pc := 80) hc cfR kcX6 0 (by decide) fl_X6_7 rfl dX6_measures_80 ?_
      refine x_iload_n (pc := 83) hc dX6_measures_83 5 rfl ?_
      refine x_sipush (v := 348) (pc := 84) hc dX6_measures_84 (by decide) ?_
      refine x_iadd (pc := 87) hc dX6_measures_87 ?_
      refine x_as (nI (p + 348)) (nI_add _ _) ?_
      refine x_dup2ir (pc := 88) hc dX6_measures_88 ?_
      refine x_iald (pc := 89) hc af0 (vp_in_nI (by omega) (by decide)) dX6_measures_89 ?_
      refine x_as (f18 348) (gm_ld (by omega) (by omega)) ?_
      refine x_iload (pc := 90) hc dX6_measures_90 0 rfl ?_
      refine x_if_eq (pc := 92) hc dX6_measures_92 104 (by decide) (fun c92_2 => ?_) (fun c92_2 => ?_)
      · refine x_iconst (v := 0) (pc := 104) hc dX6_measures_104 (by decide) ?_
        refine x_iadd (pc := 105) hc dX6_measures_105 ?_
        refine x_iast (pc := 106) hc af0 (vp_in_nI (by omega) (by decide)) dX6_measures_106 ?_
        refine x_G (gm_st (i := 348) (by omega) (by omega)) ?_
        refine x_fn (fun z => GM G p s z m) (fun f19 ef19 => ?_)
        refine x_aload_n (pc := 107) hc dX6_measures_107 4 rfl ?_
        refine x_get (pc := 108) hc cfR kcX6 0 (by decide) fl_X6_7 rfl dX6_measures_108 ?_
        refine x_iload_n (pc := 111) hc dX6_measures_111 5 rfl ?_
        refine x_sipush (v := 348) (pc := 112) hc dX6_measures_112 (by decide) ?_
        refine x_iadd (pc := 115) hc dX6_measures_115 ?_
        refine x_as (nI (p + 348)) (nI_add _ _) ?_
        refine x_iconst (v := 1) (pc := 116) hc dX6_measures_116 (by decide) ?_
        refine x_iadd (pc := 117) hc dX6_measures_117 ?_
        refine x_as (nI (p + 348 + 1)) (nI_add _ _) ?_
        refine x_dup2ir (pc := 118) hc dX6_measures_118 ?_
        refine x_iald (pc := 119) hc af0 (vp_in_nI (by omega) (by decide)) dX6_measures_119 ?_
        refine x_as (f19 (348 + 1)) (gm_ld (by omega) (by omega)) ?_
        refine x_iload (pc := 120) hc dX6_measures_120 0 rfl ?_
        refine x_if_eq (pc := 122) hc dX6_measures_122 134 (by decide) (fun c122_2 => ?_) (fun c122_2 => ?_)
        · refine x_iconst (v := 0) (pc := 134) hc dX6_measures_134 (by decide) ?_
          refine x_iadd (pc := 135) hc dX6_measures_135 ?_
          refine x_iast (pc := 136) hc af0 (vp_in_nI (by omega) (by decide)) dX6_measures_136 ?_
          refine x_G (gm_st (i := 348 + 1) (by omega) (by omega)) ?_
          refine x_fn (fun z => GM G p s z m) (fun f20 ef20 => ?_)
          refine x_aload_n (pc := 137) hc dX6_measures_137 4 rfl ?_
          refine x_get (pc := 138) hc cfR kcX6 0 (by decide) fl_X6_7 rfl dX6_measures_138 ?_
          refine x_iload_n (pc := 141) hc dX6_measures_141 5 rfl ?_
          refine x_sipush (v := 348) (pc := 142) hc dX6_measures_142 (by decide) ?_
          refine x_iadd (pc := 145) hc dX6_measures_145 ?_
          refine x_as (nI (p + 348)) (nI_add _ _) ?_
          refine x_iconst (v := 2) (pc := 146) hc dX6_measures_146 (by decide) ?_
          refine x_iadd (pc := 147) hc dX6_measures_147 ?_
          refine x_as (nI (p + 348 + 2)) (nI_add _ _) ?_
          refine x_dup2ir (pc := 148) hc dX6_measures_148 ?_
          refine x_iald (pc := 149) hc af0 (vp_in_nI (by omega) (by decide)) dX6_measures_149 ?_
          refine x_as (f20 (348 + 2)) (gm_ld (by omega) (by omega)) ?_
          refine x_iload (pc := 150) hc dX6_measures_150 0 rfl ?_
          refine x_if_ne (pc := 152) hc dX6_measures_152 164 (by decide) (fun c152_2 => ?_) (fun c152_2 => ?_)
          · exact absurd c152_2 (by decide)
          · refine x_iload (pc := 155) hc dX6_measures_155 1 rfl ?_
            refine x_if_eq (pc := 157) hc dX6_measures_157 164 (by decide) (fun c157_1 => ?_) (fun c157_1 => ?_)
            · exact absurd c157_1 (by decide)
            · refine x_iconst (v := 1) (pc := 160) hc dX6_measures_160 (by decide) ?_
              refine x_goto (pc := 161) hc dX6_measures_161 165 (by decide) ?_
              refine x_iadd (pc := 165) hc dX6_measures_165 ?_
              refine x_iast (pc := 166) hc af0 (vp_in_nI (by omega) (by decide)) dX6_measures_166 ?_
              refine x_G (gm_st (i := 348 + 2) (by omega) (by omega)) ?_
              refine x_fn (fun z => GM G p s z m) (fun f21 ef21 => ?_)
              refine x_iconst (v := 0) (pc := 167) hc dX6_measures_167 (by decide) ?_
              refine x_istore (pc := 168) (L' := [(7, .int 0), (6, .int 0), (5, .int 1), (4, .int x17), (3, .int (nI d)), (0, .ref (w.2.2 239)), (1, .int (nI p)), (2, .int v)]) hc dX6_measures_168 (by decide) rfl ?_
              have hf5 : f21 = rPre f v (rTold f d) d 1 0 := by
                subst ex17
                subst ef17
                subst ef18
                subst ef19
                subst ef20
                subst ef21
                rfl
              subst ex17
              have hT : rT f d = 1 := b01_pos (Int32.not_lt.mp c33)
              have hZ : b01 (v ≤ 0) = 0 := b01_neg (Int32.not_le.mpr c44_1)
              have hgo : rGo f v d = rMid f v (rTold f d) d 1 0 := by unfold rGo; rw [hT, hZ]
              have loop170 : ∀ (n1 : Nat) (k : Nat), k ≤ 4 → 4 < k + n1 → XX w K 8 (GM G p s (rSets (rPre f v (rTold f d) d 1 0) 1 0 k) m) 170 [(7, .int (nI k)), (6, .int 0), (5, .int 1), (4, .int (rTold f d)), (3, .int (nI d)), (0, .ref (w.2.2 239)), (1, .int (nI p)), (2, .int v)] [] := by
                intro n1
                induction n1 with
                | zero => intro k hk hf; omega
                | succ n1 ih =>
                  intro k hk hf
                  refine x_iload (pc := 170) hc dX6_measures_170 0 rfl ?_
                  refine x_iconst (v := 4) (pc := 172) hc dX6_measures_172 (by decide) ?_
                  refine x_icmp_ge (pc := 173) hc dX6_measures_173 193 (by decide) (fun c173_2 => ?_) (fun c173_2 => ?_)
                  · have c173_2 : 4 ≤ k := (nI_leI (a := 4) (b := k) (by omega) (by omega)).mp c173_2
                    refine x_aload_n (pc := 193) hc dX6_measures_193 5 rfl ?_
                    refine x_get (pc := 194) hc cfR kcX6 0 (by decide) fl_X6_7 rfl dX6_measures_194 ?_
                    refine x_iload_n (pc := 197) hc dX6_measures_197 6 rfl ?_
                    refine x_sipush (v := 352) (pc := 198) hc dX6_measures_198 (by decide) ?_
                    refine x_iadd (pc := 201) hc dX6_measures_201 ?_
                    refine x_as (nI (p + 352)) (nI_add _ _) ?_
                    refine x_dup2ir (pc := 202) hc dX6_measures_202 ?_
                    refine x_iald (pc := 203) hc af0 (vp_in_nI (by omega) (by decide)) dX6_measures_203 ?_
                    refine x_as ((rSets (rPre f v (rTold f d) d 1 0) 1 0 k) 352) (gm_ld (by omega) (by omega)) ?_
                    refine x_iload_n (pc := 204) hc dX6_measures_204 7 rfl ?_
                    refine x_iload (pc := 205) hc dX6_measures_205 3 rfl ?_
                    refine x_isub (pc := 207) hc dX6_measures_207 ?_
                    refine x_callSi (pc := 208) hc cl_X6_73 [.int (v - (rTold f d))] (m_X6_size hI (kl K) (GM G p s (rSets (rPre f v (rTold f d) d 1 0) 1 0 k) m) (v - (rTold f d))) rfl rfl (by simp [Value.category]) rfl rfl ⟨by decide, by decide⟩ dX6_measures_208 (fun r208_2 Gc208_2 q208_2 => ?_)
                    obtain ⟨er208_2, eGc208_2⟩ := q208_2
                    rw [eGc208_2]
                    subst er208_2
                    refine x_iadd (pc := 211) hc dX6_measures_211 ?_
                    refine x_iast (pc := 212) hc af0 (vp_in_nI (by omega) (by decide)) dX6_measures_212 ?_
                    refine x_G (gm_st (i := 352) (by omega) (by omega)) ?_
                    refine x_fn (fun z => GM G p s z m) (fun f22 ef22 => ?_)
                    refine x_aload_n (pc := 213) hc dX6_measures_213 5 rfl ?_
                    refine x_get (pc := 214) hc cfR kcX6 0 (by decide) fl_X6_7 rfl dX6_measures_214 ?_
                    refine x_iload_n (pc := 217) hc dX6_measures_217 6 rfl ?_
                    refine x_sipush (v := 353) (pc := 218) hc dX6_measures_218 (by decide) ?_
                    refine x_iadd (pc := 221) hc dX6_measures_221 ?_
                    refine x_as (nI (p + 353)) (nI_add _ _) ?_
                    refine x_dup2ir (pc := 222) hc dX6_measures_222 ?_
                    refine x_iald (pc := 223) hc af0 (vp_in_nI (by omega) (by decide)) dX6_measures_223 ?_
                    refine x_as (f22 353) (gm_ld (by omega) (by omega)) ?_
                    refine x_iconst (v := 1) (pc := 224) hc dX6_measures_224 (by decide) ?_
                    refine x_iadd (pc := 225) hc dX6_measures_225 ?_
                    refine x_iast (pc := 226) hc af0 (vp_in_nI (by omega) (by decide)) dX6_measures_226 ?_
                    refine x_G (gm_st (i := 353) (by omega) (by omega)) ?_
                    refine x_fn (fun z => GM G p s z m) (fun f23 ef23 => ?_)
                    refine x_aload_n (pc := 227) hc dX6_measures_227 5 rfl ?_
                    refine x_get (pc := 228) hc cfR kcX6 0 (by decide) fl_X6_7 rfl dX6_measures_228 ?_
                    refine x_iload_n (pc := 231) hc dX6_measures_231 6 rfl ?_
                    refine x_sipush (v := 300) (pc := 232) hc dX6_measures_232 (by decide) ?_
                    refine x_iadd (pc := 235) hc dX6_measures_235 ?_
                    refine x_as (nI (p + 300)) (nI_add _ _) ?_
                    refine x_dup2ir (pc := 236) hc dX6_measures_236 ?_
                    refine x_iald (pc := 237) hc af0 (vp_in_nI (by omega) (by decide)) dX6_measures_237 ?_
                    refine x_as (f23 300) (gm_ld (by omega) (by omega)) ?_
                    refine x_as (nI d) (by
                      rw [ef23, upd_n _ _ (by omega), ef22, upd_n _ _ (by omega), rSets_n _ _ _ _ (by omega) k (by omega), rPre_n _ _ _ _ _ _ _ hd (by omega) (by omega), h0]) ?_
                    refine x_iconst (v := 1) (pc := 238) hc dX6_measures_238 (by decide) ?_
                    refine x_iadd (pc := 239) hc dX6_measures_239 ?_
                    refine x_as (nI (d + 1)) (nI_add _ _) ?_
                    refine x_iast (pc := 240) hc af0 (vp_in_nI (by omega) (by decide)) dX6_measures_240 ?_
                    refine x_G (gm_st (i := 300) (by omega) (by omega)) ?_
                    refine x_fn (fun z => GM G p s z m) (fun f24 ef24 => ?_)
                    have k4 : k = 4 := by omega
                    subst k4
                    have hg : f24 = rGo f v d := by
                      rw [hgo]
                      subst ef22
                      subst ef23
                      subst ef24
                      rfl
                    rw [hg]
                    refine x_aload_n (pc := 241) hc dX6_measures_241 5 rfl ?_
                    refine x_get (pc := 242) hc cfR kcX6 0 (by decide) fl_X6_7 rfl dX6_measures_242 ?_
                    refine x_iload_n (pc := 245) hc dX6_measures_245 6 rfl ?_
                    refine x_sipush (v := 300) (pc := 246) hc dX6_measures_246 (by decide) ?_
                    refine x_iadd (pc := 249) hc dX6_measures_249 ?_
                    refine x_as (nI (p + 300)) (nI_add _ _) ?_
                    refine x_iald (pc := 250) hc af0 (vp_in_nI (by omega) (by decide)) dX6_measures_250 ?_
                    refine x_as ((rGo f v d) 300) (gm_ld (by omega) (by omega)) ?_
                    refine x_as (nI (d + 1)) (by rw [hgo]; exact upd_s _ _ _) ?_
                    refine x_bipush (v := 20) (pc := 251) hc dX6_measures_251 (by decide) ?_
                    refine x_icmp_ne (pc := 253) hc dX6_measures_253 261 (by decide) (fun c253_2 => ?_) (fun c253_2 => ?_)
                    · have c253_2 : ¬ d + 1 = 20 := fun h9 => c253_2 ((nI_eq (a := d + 1) (b := 20) (by omega) (by omega)).mpr h9)
                      refine x_iload_n (pc := 261) hc dX6_measures_261 7 rfl ?_
                      refine x_iload (pc := 262) hc dX6_measures_262 3 rfl ?_
                      refine x_isub (pc := 264) hc dX6_measures_264 ?_
                      exact hret _ _ _ _ dX6_measures_265 ⟨rfl, by unfold rMeas rMis; rw [if_neg c253_2, if_neg c253_2]⟩
                    · have c253_2 : d + 1 = 20 := (nI_eq (a := d + 1) (b := 20) (by omega) (by omega)).mp c253_2
                      refine x_aload_n (pc := 256) hc dX6_measures_256 5 rfl ?_
                      refine x_iload_n (pc := 257) hc dX6_measures_257 6 rfl ?_
                      refine x_callVv (pc := 258) hc cl_X6_76 cfR kcX6 [.int (nI p)] (m_X6_ends hI (kl K) G r p s ((rGo f v d)) m (by omega) (by rw [hgo, ← c253_2]; exact upd_s _ _ _) (by
                        refine ⟨h3.1, ?_⟩
                        have e3 : rGo f v d 303 = f 303 := by rw [hgo]; exact rMid_n _ _ _ _ _ _ _ hd (by omega) (by omega) (by omega)
                        rw [e3]
                        exact h3.2)) rfl rfl (by simp [Value.category]) rfl rfl ⟨by decide, by decide⟩ dX6_measures_258 (fun Gc258_2 q258_2 => ?_)
                      rw [q258_2]
                      refine x_iload_n (pc := 261) hc dX6_measures_261 7 rfl ?_
                      refine x_iload (pc := 262) hc dX6_measures_262 3 rfl ?_
                      refine x_isub (pc := 264) hc dX6_measures_264 ?_
                      exact hret _ _ _ _ dX6_measures_265 ⟨rfl, by unfold rMeas rMis; rw [if_pos c253_2, if_pos c253_2]⟩
                  · have c173_2 : ¬ 4 ≤ k := fun h9 => c173_2 ((nI_leI (a := 4) (b := k) (by omega) (by omega)).mpr h9)
                    refine x_aload_n (pc := 176) hc dX6_measures_176 5 rfl ?_
                    refine x_iload_n (pc := 177) hc dX6_measures_177 6 rfl ?_
                    refine x_iload (pc := 178) hc dX6_measures_178 0 rfl ?_
                    refine x_iload (pc := 180) hc dX6_measures_180 2 rfl ?_
                    refine x_iload (pc := 182) hc dX6_measures_182 1 rfl ?_
                    refine x_callVv (pc := 184) hc cl_X6_69 cfR kcX6 [.int (nI p), .int (nI k), .int 1, .int 0] (m_X6_settles hI (kl K) G k 1 0 p s ((rSets (rPre f v (rTold f d) d 1 0) 1 0 k)) m (by omega) (by omega)) rfl rfl (by simp [Value.category]) rfl rfl ⟨by decide, by decide⟩ dX6_measures_184 (fun Gc184_2 q184_2 => ?_)
                    rw [q184_2]
                    refine x_iinc (pc := 187) (L' := [(7, .int (nI (k + 1))), (6, .int 0), (5, .int 1), (4, .int (rTold f d)), (3, .int (nI d)), (0, .ref (w.2.2 239)), (1, .int (nI p)), (2, .int v)]) hc dX6_measures_187 0 rfl (nI (k + 1)) (nI_1 _) (by decide) rfl ?_
                    refine x_goto (pc := 190) hc dX6_measures_190 170 (by decide) ?_
                    refine x_loc [0, 1, 2, 3, 4, 5, 6, 7] rfl ?_
                    exact ih (k + 1) (by omega) (by omega)
              refine x_loc [0, 1, 2, 3, 4, 5, 6, 7] rfl ?_
              have z8 := loop170 5 0 (by omega) (by omega)
              rw [hf5]
              exact z8
        · exact absurd (by decide) c122_2
      · exact absurd (by decide) c92_2
    · refine x_iconst (v := 1) (pc := 47) hc dX6_measures_47 (by decide) ?_
      refine x_goto (pc := 48) hc dX6_measures_48 52 (by decide) ?_
      refine x_istore (pc := 52) (L' := [(6, .int 1), (5, .int 1), (4, .int x17), (3, .int (nI d)), (0, .ref (w.2.2 239)), (1, .int (nI p)), (2, .int v)]) hc dX6_measures_52 (by decide) rfl ?_
      refine x_aload_n (pc := 54) hc dX6_measures_54 4 rfl ?_
      refine x_get (pc := 55) hc cfR kcX6 0 (by decide) fl_X6_7 rfl dX6_measures_55 ?_
      refine x_iload_n (pc := 58) hc dX6_measures_58 5 rfl ?_
      refine x_bipush (v := 20) (pc := 59) hc dX6_measures_59 (by decide) ?_
      refine x_iadd (pc := 61) hc dX6_measures_61 ?_
      refine x_as (nI (p + 20)) (nI_add _ _) ?_
      refine x_iload_n (pc := 62) hc dX6_measures_62 3 rfl ?_
      refine x_iadd (pc := 63) hc dX6_measures_63 ?_
      refine x_as (nI (p + 20 + d)) (nI_add _ _) ?_
      refine x_iload (pc := 64) hc dX6_measures_64 2 rfl ?_
      refine x_iast (pc := 66) hc af0 (vp_in_nI (by omega) (by decide)) dX6_measures_66 ?_
      refine x_G (gm_st (i := 20 + d) (by omega) (by omega)) ?_
      refine x_fn (fun z => GM G p s z m) (fun f25 ef25 => ?_)
      refine x_aload_n (pc := 67) hc dX6_measures_67 4 rfl ?_
      refine x_get (pc := 68) hc cfR kcX6 0 (by decide) fl_X6_7 rfl dX6_measures_68 ?_
      refine x_iload_n (pc := 71) hc dX6_measures_71 5 rfl ?_
      refine x_bipush (v := 40) (pc := 72) hc dX6_measures_72 (by decide) ?_
      refine x_iadd (pc := 74) hc dX6_measures_74 ?_
      refine x_as (nI (p + 40)) (nI_add _ _) ?_
      refine x_iload_n (pc := 75) hc dX6_measures_75 3 rfl ?_
      refine x_iadd (pc := 76) hc dX6_measures_76 ?_
      refine x_as (nI (p + 40 + d)) (nI_add _ _) ?_
      refine x_iload_n (pc := 77) hc dX6_measures_77 6 rfl ?_
      refine x_iast (pc := 78) hc af0 (vp_in_nI (by omega) (by decide)) dX6_measures_78 ?_
      refine x_G (gm_st (i := 40 + d) (by omega) (by omega)) ?_
      refine x_fn (fun z => GM G p s z m) (fun f26 ef26 => ?_)
      refine x_aload_n (pc := 79) hc dX6_measures_79 4 rfl ?_
      refine x_get (pc := 80) hc cfR kcX6 0 (by decide) fl_X6_7 rfl dX6_measures_80 ?_
      refine x_iload_n (pc := 83) hc dX6_measures_83 5 rfl ?_
      refine x_sipush (v := 348) (pc := 84) hc dX6_measures_84 (by decide) ?_
      refine x_iadd (pc := 87) hc dX6_measures_87 ?_
      refine x_as (nI (p + 348)) (nI_add _ _) ?_
      refine x_dup2ir (pc := 88) hc dX6_measures_88 ?_
      refine x_iald (pc := 89) hc af0 (vp_in_nI (by omega) (by decide)) dX6_measures_89 ?_
      refine x_as (f26 348) (gm_ld (by omega) (by omega)) ?_
      refine x_iload (pc := 90) hc dX6_measures_90 0 rfl ?_
      refine x_if_eq (pc := 92) hc dX6_measures_92 104 (by decide) (fun c92_3 => ?_) (fun c92_3 => ?_)
      · exact absurd c92_3 (by decide)
      · refine x_iload (pc := 95) hc dX6_measures_95 1 rfl ?_
        refine x_if_eq (pc := 97) hc dX6_measures_97 104 (by decide) (fun c97_1 => ?_) (fun c97_1 => ?_)
        · exact absurd c97_1 (by decide)
        · refine x_iconst (v := 1) (pc := 100) hc dX6_measures_100 (by decide) ?_
          refine x_goto (pc := 101) hc dX6_measures_101 105 (by decide) ?_
          refine x_iadd (pc := 105) hc dX6_measures_105 ?_
          refine x_iast (pc := 106) hc af0 (vp_in_nI (by omega) (by decide)) dX6_measures_106 ?_
          refine x_G (gm_st (i := 348) (by omega) (by omega)) ?_
          refine x_fn (fun z => GM G p s z m) (fun f27 ef27 => ?_)
          refine x_aload_n (pc := 107) hc dX6_measures_107 4 rfl ?_
          refine x_get (pc := 108) hc cfR kcX6 0 (by decide) fl_X6_7 rfl dX6_measures_108 ?_
          refine x_iload_n (pc := 111) hc dX6_measures_111 5 rfl ?_
          refine x_sipush (v := 348) (pc := 112) hc dX6_measures_112 (by decide) ?_
          refine x_iadd (pc := 115) hc dX6_measures_115 ?_
          refine x_as (nI (p + 348)) (nI_add _ _) ?_
          refine x_iconst (v := 1) (pc := 116) hc dX6_measures_116 (by decide) ?_
          refine x_iadd (pc := 117) hc dX6_measures_117 ?_
          refine x_as (nI (p + 348 + 1)) (nI_add _ _) ?_
          refine x_dup2ir (pc := 118) hc dX6_measures_118 ?_
          refine x_iald (pc := 119) hc af0 (vp_in_nI (by omega) (by decide)) dX6_measures_119 ?_
          refine x_as (f27 (348 + 1)) (gm_ld (by omega) (by omega)) ?_
          refine x_iload (pc := 120) hc dX6_measures_120 0 rfl ?_
          refine x_if_eq (pc := 122) hc dX6_measures_122 134 (by decide) (fun c122_3 => ?_) (fun c122_3 => ?_)
          · exact absurd c122_3 (by decide)
          · refine x_iload (pc := 125) hc dX6_measures_125 1 rfl ?_
            refine x_if_ne (pc := 127) hc dX6_measures_127 134 (by decide) (fun c127_1 => ?_) (fun c127_1 => ?_)
            · refine x_iconst (v := 0) (pc := 134) hc dX6_measures_134 (by decide) ?_
              refine x_iadd (pc := 135) hc dX6_measures_135 ?_
              refine x_iast (pc := 136) hc af0 (vp_in_nI (by omega) (by decide)) dX6_measures_136 ?_
              refine x_G (gm_st (i := 348 + 1) (by omega) (by omega)) ?_
              refine x_fn (fun z => GM G p s z m) (fun f28 ef28 => ?_)
              refine x_aload_n (pc := 137) hc dX6_measures_137 4 rfl ?_
              refine x_get (pc := 138) hc cfR kcX6 0 (by decide) fl_X6_7 rfl dX6_measures_138 ?_
              refine x_iload_n (pc := 141) hc dX6_measures_141 5 rfl ?_
              refine x_sipush (v := 348) (pc := 142) hc dX6_measures_142 (by decide) ?_
              refine x_iadd (pc := 145) hc dX6_measures_145 ?_
              refine x_as (nI (p + 348)) (nI_add _ _) ?_
              refine x_iconst (v := 2) (pc := 146) hc dX6_measures_146 (by decide) ?_
              refine x_iadd (pc := 147) hc dX6_measures_147 ?_
              refine x_as (nI (p + 348 + 2)) (nI_add _ _) ?_
              refine x_dup2ir (pc := 148) hc dX6_measures_148 ?_
              refine x_iald (pc := 149) hc af0 (vp_in_nI (by omega) (by decide)) dX6_measures_149 ?_
              refine x_as (f28 (348 + 2)) (gm_ld (by omega) (by omega)) ?_
              refine x_iload (pc := 150) hc dX6_measures_150 0 rfl ?_
              refine x_if_ne (pc := 152) hc dX6_measures_152 164 (by decide) (fun c152_3 => ?_) (fun c152_3 => ?_)
              · refine x_iconst (v := 0) (pc := 164) hc dX6_measures_164 (by decide) ?_
                refine x_iadd (pc := 165) hc dX6_measures_165 ?_
                refine x_iast (pc := 166) hc af0 (vp_in_nI (by omega) (by decide)) dX6_measures_166 ?_
                refine x_G (gm_st (i := 348 + 2) (by omega) (by omega)) ?_
                refine x_fn (fun z => GM G p s z m) (fun f29 ef29 => ?_)
                refine x_iconst (v := 0) (pc := 167) hc dX6_measures_167 (by decide) ?_
                refine x_istore (pc := 168) (L' := [(7, .int 0), (6, .int 1), (5, .int 1), (4, .int x17), (3, .int (nI d)), (0, .ref (w.2.2 239)), (1, .int (nI p)), (2, .int v)]) hc dX6_measures_168 (by decide) rfl ?_
                have hf5 : f29 = rPre f v (rTold f d) d 1 1 := by
                  subst ex17
                  subst ef25
                  subst ef26
                  subst ef27
                  subst ef28
                  subst ef29
                  rfl
                subst ex17
                have hT : rT f d = 1 := b01_pos (Int32.not_lt.mp c33)
                have hZ : b01 (v ≤ 0) = 1 := b01_pos (Int32.not_lt.mp c44_1)
                have hgo : rGo f v d = rMid f v (rTold f d) d 1 1 := by unfold rGo; rw [hT, hZ]
                have loop170 : ∀ (n1 : Nat) (k : Nat), k ≤ 4 → 4 < k + n1 → XX w K 8 (GM G p s (rSets (rPre f v (rTold f d) d 1 1) 1 1 k) m) 170 [(7, .int (nI k)), (6, .int 1), (5, .int 1), (4, .int (rTold f d)), (3, .int (nI d)), (0, .ref (w.2.2 239)), (1, .int (nI p)), (2, .int v)] [] := by
                  intro n1
                  induction n1 with
                  | zero => intro k hk hf; omega
                  | succ n1 ih =>
                    intro k hk hf
                    refine x_iload (pc := 170) hc dX6_measures_170 0 rfl ?_
                    refine x_iconst (v := 4) (pc := 172) hc dX6_measures_172 (by decide) ?_
                    refine x_icmp_ge (pc := 173) hc dX6_measures_173 193 (by decide) (fun c173_3 => ?_) (fun c173_3 => ?_)
                    · have c173_3 : 4 ≤ k := (nI_leI (a := 4) (b := k) (by omega) (by omega)).mp c173_3
                      refine x_aload_n (pc := 193) hc dX6_measures_193 5 rfl ?_
                      refine x_get (pc := 194) hc cfR kcX6 0 (by decide) fl_X6_7 rfl dX6_measures_194 ?_
                      refine x_iload_n (pc := 197) hc dX6_measures_197 6 rfl ?_
                      refine x_sipush (v := 352) (pc := 198) hc dX6_measures_198 (by decide) ?_
                      refine x_iadd (pc := 201) hc dX6_measures_201 ?_
                      refine x_as (nI (p + 352)) (nI_add _ _) ?_
                      refine x_dup2ir (pc := 202) hc dX6_measures_202 ?_
                      refine x_iald (pc := 203) hc af0 (vp_in_nI (by omega) (by decide)) dX6_measures_203 ?_
                      refine x_as ((rSets (rPre f v (rTold f d) d 1 1) 1 1 k) 352) (gm_ld (by omega) (by omega)) ?_
                      refine x_iload_n (pc := 204) hc dX6_measures_204 7 rfl ?_
                      refine x_iload (pc := 205) hc dX6_measures_205 3 rfl ?_
                      refine x_isub (pc := 207) hc dX6_measures_207 ?_
                      refine x_callSi (pc := 208) hc cl_X6_73 [.int (v - (rTold f d))] (m_X6_size hI (kl K) (GM G p s (rSets (rPre f v (rTold f d) d 1 1) 1 1 k) m) (v - (rTold f d))) rfl rfl (by simp [Value.category]) rfl rfl ⟨by decide, by decide⟩ dX6_measures_208 (fun r208_3 Gc208_3 q208_3 => ?_)
                      obtain ⟨er208_3, eGc208_3⟩ := q208_3
                      rw [eGc208_3]
                      subst er208_3
                      refine x_iadd (pc := 211) hc dX6_measures_211 ?_
                      refine x_iast (pc := 212) hc af0 (vp_in_nI (by omega) (by decide)) dX6_measures_212 ?_
                      refine x_G (gm_st (i := 352) (by omega) (by omega)) ?_
                      refine x_fn (fun z => GM G p s z m) (fun f30 ef30 => ?_)
                      refine x_aload_n (pc := 213) hc dX6_measures_213 5 rfl ?_
                      refine x_get (pc := 214) hc cfR kcX6 0 (by decide) fl_X6_7 rfl dX6_measures_214 ?_
                      refine x_iload_n (pc := 217) hc dX6_measures_217 6 rfl ?_
                      refine x_sipush (v := 353) (pc := 218) hc dX6_measures_218 (by decide) ?_
                      refine x_iadd (pc := 221) hc dX6_measures_221 ?_
                      refine x_as (nI (p + 353)) (nI_add _ _) ?_
                      refine x_dup2ir (pc := 222) hc dX6_measures_222 ?_
                      refine x_iald (pc := 223) hc af0 (vp_in_nI (by omega) (by decide)) dX6_measures_223 ?_
                      refine x_as (f30 353) (gm_ld (by omega) (by omega)) ?_
                      refine x_iconst (v := 1) (pc := 224) hc dX6_measures_224 (by decide) ?_
                      refine x_iadd (pc := 225) hc dX6_measures_225 ?_
                      refine x_iast (pc := 226) hc af0 (vp_in_nI (by omega) (by decide)) dX6_measures_226 ?_
                      refine x_G (gm_st (i := 353) (by omega) (by omega)) ?_
                      refine x_fn (fun z => GM G p s z m) (fun f31 ef31 => ?_)
                      refine x_aload_n (pc := 227) hc dX6_measures_227 5 rfl ?_
                      refine x_get (pc := 228) hc cfR kcX6 0 (by decide) fl_X6_7 rfl dX6_measures_228 ?_
                      refine x_iload_n (pc := 231) hc dX6_measures_231 6 rfl ?_
                      refine x_sipush (v := 300) (pc := 232) hc dX6_measures_232 (by decide) ?_
                      refine x_iadd (pc := 235) hc dX6_measures_235 ?_
                      refine x_as (nI (p + 300)) (nI_add _ _) ?_
                      refine x_dup2ir (pc := 236) hc dX6_measures_236 ?_
                      refine x_iald (pc := 237) hc af0 (vp_in_nI (by omega) (by decide)) dX6_measures_237 ?_
                      refine x_as (f31 300) (gm_ld (by omega) (by omega)) ?_
                      refine x_as (nI d) (by
                        rw [ef31, upd_n _ _ (by omega), ef30, upd_n _ _ (by omega), rSets_n _ _ _ _ (by omega) k (by omega), rPre_n _ _ _ _ _ _ _ hd (by omega) (by omega), h0]) ?_
                      refine x_iconst (v := 1) (pc := 238) hc dX6_measures_238 (by decide) ?_
                      refine x_iadd (pc := 239) hc dX6_measures_239 ?_
                      refine x_as (nI (d + 1)) (nI_add _ _) ?_
                      refine x_iast (pc := 240) hc af0 (vp_in_nI (by omega) (by decide)) dX6_measures_240 ?_
                      refine x_G (gm_st (i := 300) (by omega) (by omega)) ?_
                      refine x_fn (fun z => GM G p s z m) (fun f32 ef32 => ?_)
                      have k4 : k = 4 := by omega
                      subst k4
                      have hg : f32 = rGo f v d := by
                        rw [hgo]
                        subst ef30
                        subst ef31
                        subst ef32
                        rfl
                      rw [hg]
                      refine x_aload_n (pc := 241) hc dX6_measures_241 5 rfl ?_
                      refine x_get (pc := 242) hc cfR kcX6 0 (by decide) fl_X6_7 rfl dX6_measures_242 ?_
                      refine x_iload_n (pc := 245) hc dX6_measures_245 6 rfl ?_
                      refine x_sipush (v := 300) (pc := 246) hc dX6_measures_246 (by decide) ?_
                      refine x_iadd (pc := 249) hc dX6_measures_249 ?_
                      refine x_as (nI (p + 300)) (nI_add _ _) ?_
                      refine x_iald (pc := 250) hc af0 (vp_in_nI (by omega) (by decide)) dX6_measures_250 ?_
                      refine x_as ((rGo f v d) 300) (gm_ld (by omega) (by omega)) ?_
                      refine x_as (nI (d + 1)) (by rw [hgo]; exact upd_s _ _ _) ?_
                      refine x_bipush (v := 20) (pc := 251) hc dX6_measures_251 (by decide) ?_
                      refine x_icmp_ne (pc := 253) hc dX6_measures_253 261 (by decide) (fun c253_3 => ?_) (fun c253_3 => ?_)
                      · have c253_3 : ¬ d + 1 = 20 := fun h9 => c253_3 ((nI_eq (a := d + 1) (b := 20) (by omega) (by omega)).mpr h9)
                        refine x_iload_n (pc := 261) hc dX6_measures_261 7 rfl ?_
                        refine x_iload (pc := 262) hc dX6_measures_262 3 rfl ?_
                        refine x_isub (pc := 264) hc dX6_measures_264 ?_
                        exact hret _ _ _ _ dX6_measures_265 ⟨rfl, by unfold rMeas rMis; rw [if_neg c253_3, if_neg c253_3]⟩
                      · have c253_3 : d + 1 = 20 := (nI_eq (a := d + 1) (b := 20) (by omega) (by omega)).mp c253_3
                        refine x_aload_n (pc := 256) hc dX6_measures_256 5 rfl ?_
                        refine x_iload_n (pc := 257) hc dX6_measures_257 6 rfl ?_
                        refine x_callVv (pc := 258) hc cl_X6_76 cfR kcX6 [.int (nI p)] (m_X6_ends hI (kl K) G r p s ((rGo f v d)) m (by omega) (by rw [hgo, ← c253_3]; exact upd_s _ _ _) (by
                          refine ⟨h3.1, ?_⟩
                          have e3 : rGo f v d 303 = f 303 := by rw [hgo]; exact rMid_n _ _ _ _ _ _ _ hd (by omega) (by omega) (by omega)
                          rw [e3]
                          exact h3.2)) rfl rfl (by simp [Value.category]) rfl rfl ⟨by decide, by decide⟩ dX6_measures_258 (fun Gc258_3 q258_3 => ?_)
                        rw [q258_3]
                        refine x_iload_n (pc := 261) hc dX6_measures_261 7 rfl ?_
                        refine x_iload (pc := 262) hc dX6_measures_262 3 rfl ?_
                        refine x_isub (pc := 264) hc dX6_measures_264 ?_
                        exact hret _ _ _ _ dX6_measures_265 ⟨rfl, by unfold rMeas rMis; rw [if_pos c253_3, if_pos c253_3]⟩
                    · have c173_3 : ¬ 4 ≤ k := fun h9 => c173_3 ((nI_leI (a := 4) (b := k) (by omega) (by omega)).mpr h9)
                      refine x_aload_n (pc := 176) hc dX6_measures_176 5 rfl ?_
                      refine x_iload_n (pc := 177) hc dX6_measures_177 6 rfl ?_
                      refine x_iload (pc := 178) hc dX6_measures_178 0 rfl ?_
                      refine x_iload (pc := 180) hc dX6_measures_180 2 rfl ?_
                      refine x_iload (pc := 182) hc dX6_measures_182 1 rfl ?_
                      refine x_callVv (pc := 184) hc cl_X6_69 cfR kcX6 [.int (nI p), .int (nI k), .int 1, .int 1] (m_X6_settles hI (kl K) G k 1 1 p s ((rSets (rPre f v (rTold f d) d 1 1) 1 1 k)) m (by omega) (by omega)) rfl rfl (by simp [Value.category]) rfl rfl ⟨by decide, by decide⟩ dX6_measures_184 (fun Gc184_3 q184_3 => ?_)
                      rw [q184_3]
                      refine x_iinc (pc := 187) (L' := [(7, .int (nI (k + 1))), (6, .int 1), (5, .int 1), (4, .int (rTold f d)), (3, .int (nI d)), (0, .ref (w.2.2 239)), (1, .int (nI p)), (2, .int v)]) hc dX6_measures_187 0 rfl (nI (k + 1)) (nI_1 _) (by decide) rfl ?_
                      refine x_goto (pc := 190) hc dX6_measures_190 170 (by decide) ?_
                      refine x_loc [0, 1, 2, 3, 4, 5, 6, 7] rfl ?_
                      exact ih (k + 1) (by omega) (by omega)
                refine x_loc [0, 1, 2, 3, 4, 5, 6, 7] rfl ?_
                have z8 := loop170 5 0 (by omega) (by omega)
                rw [hf5]
                exact z8
              · exact absurd c152_3 (by decide)
            · exact absurd c127_1 (by decide)
